import java.util.List;
import java.util.function.ToIntFunction;
import java.util.function.ToLongFunction;

/** Each limit that the document gives: what is at it, and what is just beyond it. */
public final class LimitsTest extends Sheet {
    private static final int MOST_STEPS = 20000;

    private LimitsTest() {
    }

    public static void main(String[] args) {
        handles();
        numbers();
        parameters();
        rowsOfTheBoard();
        arguments();
        steps();
        stepsAheadOfDepth();
        depthOfEachSort();
        depthEnds();
        rounds();
        failuresOfACall();
        rowsOfACall();
        itemsOfACall();
        boundsAheadOfRoom();
        rowsNotMade();
        rowsOfTheirOwn();
        rowsMadeAreNoOthers();
        traces();
        callsOfAnObject();
        C.end("LimitsTest");
    }

    /** A call of each sort that makes a HANDLE of what withParts() has. */
    private static List<ToLongFunction<Bench>> eachMaker() {
        return List.of(b -> b.leaf(0), b -> b.constant(ROW, 0), b -> b.bind(0, 0, 1), b -> b.drop(0, 0, 1),
                b -> b.permute(0, 2, 1), b -> combined(b, 0), b -> combined(b, 1), b -> combined(b, 2),
                b -> combined(b, 3), b -> combined(b, 4));
    }

    private static long combined(Bench b, int which) {
        switch (which) {
            case 0: return b.filter(0, 0, 1);
            case 1: return b.after(0, 1);
            case 2: return b.fold(0, 1);
            case 3: return b.guard(2, 0, 0);
            case 4: return b.spread(3, 1);
            case 5: return b.collect(4, 1);
            case 6: return b.widen(0, -1, LONG);
            case 7: return b.loop(5, 0);
            case 8: return b.caught(0, 1, 1);
            case 9: return b.ensure(3, 3);
            default: return b.site(0);
        }
    }

    private static Bench withParts() {
        Bench b = new Bench();
        for (int f : new int[] {1, 7, 24, 50, 41}) {
            b.leaf(f);
        }
        b.constant(INT, 2);
        return b;
    }

    private static void handles() {
        C.part("120 HANDLES at most");
        for (ToLongFunction<Bench> maker : eachMaker()) {
            lastOne(maker);
        }
        for (int which = 5; which <= 10; which++) {
            int k = which;
            lastOne(b -> combined(b, k));
        }
        C.part("the least number that none has");
        Bench b = withParts();
        fill(b);
        b.pin(0, true);
        b.pin(1, true);
        b.pin(3, true);
        b.pin(119, true);
        C.done(b, "sweep", b::sweep, 116);
        for (int due : new int[] {2, 4, 5, 6}) {
            C.done(b, "the least one", () -> b.leaf(0), due);
        }
        fill(b);
        C.due("118 is the last one", b.about(118, 4), 53);
        C.refused(b, "full again", () -> b.site(0), FULL);
        C.due("what is kept has its number", b.about(119, 4), 53);
    }

    private static void lastOne(ToLongFunction<Bench> maker) {
        Bench b = withParts();
        fillTo(b, MOST_HANDLES - 1);
        C.done(b, "the 120th", () -> maker.applyAsLong(b), MOST_HANDLES - 1);
        C.due("120 are told", b.told(0), MOST_HANDLES);
        C.refused(b, "the 121st", () -> maker.applyAsLong(b), FULL);
    }

    private static void numbers() {
        C.part("HANDLES from 0 to the last one");
        Bench b = new Bench();
        C.refused(b, "0 of none", () -> b.arity(0), UNKNOWN);
        b.leaf(0);
        C.done(b, "0 of one", () -> b.arity(0), 2);
        C.refused(b, "1 of one", () -> b.arity(1), UNKNOWN);
        fill(b);
        C.done(b, "119 of all", () -> b.arity(119), 0);
        C.refused(b, "120 of all", () -> b.arity(120), UNKNOWN);
        C.done(b, "119 is called", () -> b.call(119), 0);
        C.done(b, "119 is pinned", () -> b.pin(119, true), 0);
        C.done(b, "sweep", b::sweep, 119);
        C.done(b, "119 stays", () -> b.arity(119), 0);
    }

    private static void parameters() {
        C.part("0 to 6 PARAMETERS");
        Bench b = new Bench();
        int plus = b.leaf(0);
        int six = widened(b, plus, 6, LONG);
        type(b, six, INT, INT, INT, LONG, LONG, LONG, LONG);
        C.refused(b, "a drop of seven", () -> b.drop(six, 3, INT), TYPE, 1);
        comes(b, "a call with six", six, 9, INT, 4, INT, 5, LONG, 0, LONG, 0, LONG, 0, LONG, 0);
        int spread = b.spread(six, 4);
        type(b, spread, INT, INT, INT, ROW);
        C.done(b, "a spread of four", () -> b.arity(spread), 3);
        int five = widened(b, plus, 5, LONG);
        int none = b.spread(five, 0);
        type(b, none, INT, INT, INT, LONG, LONG, LONG, ROW);
        C.refused(b, "a spread to seven", () -> b.spread(none, 0), TYPE, 2);
        int sum = b.leaf(41);
        int all = b.collect(sum, 6);
        type(b, all, LONG, LONG, LONG, LONG, LONG, LONG, LONG);
        C.refused(b, "a collect to seven", () -> b.collect(none, 2), TYPE, 2);
        C.done(b, "a collect to six", () -> b.arity(b.collect(none, 1)), 6);
        C.done(b, "a spread of all six", () -> b.arity(b.spread(all, 6)), 1);
        C.refused(b, "a spread of seven", () -> b.spread(all, 7), BAD);
        row(b, 1, 1, 2, 4, 8, 16, 32);
        comes(b, "six items are collected", b.spread(all, 6), 63, ROW, 1);
        comes(b, "six args are collected", all, 63, LONG, 1, LONG, 2, LONG, 4, LONG, 8, LONG, 16, LONG, 32);
        sixPermuted();
    }

    private static void sixPermuted() {
        Bench b = new Bench();
        int all = b.collect(b.leaf(38), 4);
        type(b, all, ROW, TRUTH, ROW, LONG, LONG, LONG, LONG);
        int turned = b.permute(all, 6, order(5, 4, 3, 2, 1, 0));
        type(b, turned, ROW, LONG, LONG, LONG, LONG, ROW, TRUTH);
        about(b, turned, 4, all, NONE, NONE, order(5, 4, 3, 2, 1, 0));
        C.due("call", run(b, turned, LONG, 4, LONG, 3, LONG, 2, LONG, 1, ROW, 0, TRUTH, 0), 0);
        items(b, "turned", 1, 2, 3, 4);
        int one = b.permute(b.collect(b.leaf(41), 6), 1, 0);
        comes(b, "one for all six", one, 42, LONG, 7);
        int none = b.leaf(49);
        C.done(b, "none of none", () -> b.permute(none, 0, -1), none + 1);
        comes(b, "a call with none", none + 1, 1);
    }

    private static void rowsOfTheBoard() {
        C.part("8 rows of THE BOARD, up to 64 longs in each");
        for (int k = 0; k < 8; k++) {
            int row = k;
            Bench b = new Bench();
            int sum = b.leaf(41);
            C.refused(b, "none at first", () -> b.put(row, 0, 1), BAD);
            comes(b, "an empty row", sum, 0, ROW, k);
            C.done(b, "64", () -> b.board(row, 64), 64);
            C.done(b, "the first one", () -> b.put(row, 0, 1), 1);
            C.done(b, "the last one", () -> b.put(row, 63, 1L << 40), 1);
            C.refused(b, "the 65th", () -> b.put(row, 64, 1), BAD);
            comes(b, "a whole row", sum, 1 + (1L << 40), ROW, k);
            for (int other = 0; other < 8; other++) {
                comes(b, "row " + other, sum, other == k ? 1 + (1L << 40) : 0, ROW, other);
            }
            C.done(b, "again", () -> b.board(row, 64), 64);
            comes(b, "all 0 again", sum, 0, ROW, k);
            C.done(b, "one", () -> b.board(row, 1), 1);
            C.refused(b, "the second of one", () -> b.put(row, 1, 1), BAD);
            C.done(b, "none", () -> b.board(row, 0), 0);
            C.refused(b, "the first of none", () -> b.put(row, 0, 1), BAD);
        }
        Bench b = new Bench();
        b.board(0, 64);
        for (int i = 0; i < 64; i++) {
            b.put(0, i, -i);
        }
        int it = b.constant(ROW, 0);
        C.due("call", b.call(it), 0);
        C.due("64 items", b.result(), 64);
        for (int i = 0; i < 64; i++) {
            C.due("item " + i, b.item(i), -i);
        }
        C.due("item 64", b.item(64), 0);
        C.due("item -1", b.item(-1), 0);
        C.due("item of the least number", b.item(Integer.MIN_VALUE), 0);
    }

    private static void arguments() {
        C.part("6 ARGS");
        Bench b = new Bench();
        int wide = widened(b, b.leaf(36), 6, ROW);
        long[] args = {1, -1, -2, 0, 0};
        int[] kinds = {TRUTH, LONG, LONG, ROW, ROW};
        for (int i = 0; i < args.length; i++) {
            b.arg(kinds[i], args[i]);
        }
        C.done(b, "the sixth", () -> b.arg(ROW, 7), 6);
        C.refused(b, "the seventh", () -> b.arg(ROW, 7), FULL);
        C.due("six are told", b.told(2), 6);
        C.done(b, "a call with six", () -> b.call(wide), 0);
        C.due("what came", b.result(), -1);
        C.due("none are told", b.told(2), 0);
        C.done(b, "the first one again", () -> b.arg(INT, 7), 1);
        C.done(b, "they go", b::noArgs, 1);
        C.done(b, "none go", b::noArgs, 0);
    }

    /** Needs 2 + 20 x (1 + 2 + 996) = 19,982 STEPS and takes an INT. */
    private static int spender(Bench b, int plus) {
        int inner = b.loop(b.constant(INT, 996), plus);
        return b.loop(b.constant(INT, 20), b.drop(inner, 1, INT));
    }

    private static void steps() {
        C.part("20,000 STEPS in a call");
        Bench b = new Bench();
        int plus = b.leaf(0);
        int spender = spender(b, plus);
        int drop = b.about(spender, 1);
        int inner = b.about(drop, 1);
        comes(b, "some", spender, 20 * 996 * 995 / 2, INT, 0);
        spent(b, "some", 19982, 20 * 996);
        int most = sites(b, spender, 18);
        comes(b, "the most", most, 20 * 996 * 995 / 2, INT, 0);
        spent(b, "the most", MOST_STEPS);
        int more = b.site(most);
        fails(b, "one more", more, ROUNDS, plus, INT, 0);
        spent(b, "one more", MOST_STEPS, 20 * 996 - 1, 0, 0, 0);
        C.due("path(1)", b.path(1), inner);
        C.due("path(2)", b.path(2), drop);
        C.due("path(3)", b.path(3), spender);
        C.due("the last of the path", b.path(22), more);
        C.due("how long the path is", b.told(3), 23);
        comes(b, "the most again", most, 20 * 996 * 995 / 2 + 5, INT, 5);
        stepsEnd(b, most);
        lastStepOfEachSort();
    }

    private static void stepsEnd(Bench b, int most) {
        int note = b.bind(b.leaf(50), 0, 8);
        int nine = b.constant(INT, 9);
        int site = b.about(most, 1);
        fails(b, "no ENSURE goes on", b.ensure(most, note), ROUNDS, 0, INT, 0);
        C.due("no note", b.spent(6), 0);
        for (int kind : new int[] {1, 2, 3, 6}) {
            fails(b, "no CATCH goes on", b.caught(most, kind, nine), ROUNDS, 0, INT, 0);
        }
        int ensure = b.ensure(site, note);
        fails(b, "the OTHER of an ENSURE is one more", ensure, ROUNDS, note, INT, 0);
        path(b, "the OTHER of an ENSURE is one more", note, ensure);
        spent(b, "the OTHER of an ENSURE is one more", MOST_STEPS);
        C.due("no note", b.spent(6), 0);
    }

    /** A HANDLE of a sort, with ARGS that it ends well with. */
    private record Sample(int handle, long... args) {
    }

    /** One of each sort, by numbers. */
    private static List<Sample> eachSort(Bench b) {
        int less = b.leaf(1);
        int minus = b.leaf(7);
        int three = b.constant(INT, 3);
        int not = b.leaf(32);
        int nothing = b.leaf(53);
        return List.of(new Sample(minus, INT, 4), new Sample(three), new Sample(b.bind(minus, 0, 4)),
                new Sample(b.drop(three, 0, WORD), WORD, 1), new Sample(b.permute(less, 1, 0), INT, 4),
                new Sample(b.filter(minus, 0, minus), INT, 4), new Sample(b.after(minus, minus), INT, 4),
                new Sample(b.fold(minus, three)), new Sample(b.guard(not, not, not), TRUTH, 1),
                new Sample(b.spread(three, 0), ROW, 0), new Sample(b.collect(b.leaf(41), 1), LONG, 4),
                new Sample(b.widen(three, -1, LONG)), new Sample(b.loop(three, less), INT, 4),
                new Sample(b.caught(minus, 6, minus), INT, 4), new Sample(b.ensure(minus, nothing), INT, 4),
                new Sample(b.site(minus), INT, 4));
    }

    /** The HANDLE whose EVAL is first in that of h. */
    private static int firstWithin(Bench b, int h) {
        int sort = b.about(h, 0);
        return b.about(h, sort == 5 || sort == 7 || sort == 8 || sort == 12 ? 2 : 1);
    }

    private static void lastStepOfEachSort() {
        C.part("the HANDLE that is STEP 20,000 or 20,001");
        for (int sort = 0; sort <= 15; sort++) {
            Bench b = new Bench();
            Sample sample = eachSort(b).get(sort);
            int h = sample.handle;
            C.due("its sort", b.about(h, 0), sort);
            int spender = b.bind(spender(b, b.leaf(0)), 0, 0);
            int spent = b.after(spender, b.drop(b.leaf(53), 0, INT));
            int last = sites(b, b.fold(h, spent), 12);
            if (sort <= 1) {
                comes(b, "sort " + sort, last, sort == 0 ? -4 : 3, sample.args);
            } else {
                fails(b, "sort " + sort, last, ROUNDS, firstWithin(b, h), sample.args);
                C.due("it had begun", b.path(1), h);
                C.due("how long the path is", b.told(3), 15);
            }
            C.due("all steps", b.spent(0), MOST_STEPS);
            int beyond = b.site(last);
            fails(b, "beyond, sort " + sort, beyond, ROUNDS, h, sample.args);
            C.due("it had not begun", b.path(1), b.about(b.path(2), 1));
            C.due("how long the path is", b.told(3), 15);
            C.due("the last of it", b.path(14), beyond);
            C.due("all steps", b.spent(0), MOST_STEPS);
            C.due("no row was made", b.spent(2), 0);
        }
    }

    private static void stepsAheadOfDepth() {
        C.part("STEP 20,001 that would be the 101st within one another too");
        stepsAndDepth(194, 101, ROUNDS, MOST_STEPS);
        stepsAndDepth(826, 24, DEPTH, MOST_STEPS - 1);
    }

    /** Ahead of a chain of 100 that would be the 2nd to 101st within one another stand 3 + outer x (inner + 3) STEPS. */
    private static void stepsAndDepth(int inner, int outer, int due, int steps) {
        Bench b = new Bench();
        int loop = b.loop(b.constant(INT, inner), b.leaf(0));
        int spender = b.bind(b.loop(b.constant(INT, outer), b.drop(loop, 1, INT)), 0, 0);
        int leaf = b.leaf(7);
        int chain = sites(b, leaf, 99);
        int both = b.fold(chain, spender);
        fails(b, inner + " and " + outer, both, due, leaf);
        C.due("steps", b.spent(0), steps);
        C.due("the leaf is not begun", b.spent(1), inner * outer);
        C.due("how long the path is", b.told(3), 101);
        C.due("the last but one", b.path(99), chain);
        C.due("the last one", b.path(100), both);
    }

    private interface Around {
        int of(Bench b, int chain);
    }

    /** What stands around a chain of SITES over a FUNCTION, and ARGS so that the chain is come to. */
    private record Deep(String name, int function, Around around, long... args) {
    }

    private static List<Deep> deepOnes() {
        return List.of(new Deep("BIND", 7, (b, c) -> b.bind(c, 0, 5)),
                new Deep("DROP", 7, (b, c) -> b.drop(c, 0, WORD), WORD, 0, INT, 5),
                new Deep("PERMUTE", 7, (b, c) -> b.permute(c, 1, 0), INT, 5),
                new Deep("TARGET of FILTER", 7, (b, c) -> b.filter(c, 0, b.leaf(7)), INT, 5),
                new Deep("OTHER of FILTER", 7, (b, c) -> b.filter(b.leaf(7), 0, c), INT, 5),
                new Deep("TARGET of AFTER", 7, (b, c) -> b.after(c, b.leaf(7)), INT, 5),
                new Deep("OTHER of AFTER", 7, (b, c) -> b.after(b.leaf(7), c), INT, 5),
                new Deep("TARGET of FOLD", 7, (b, c) -> b.fold(c, b.constant(INT, 5))),
                new Deep("OTHER of FOLD", 7, (b, c) -> b.fold(b.leaf(0), c), INT, 5),
                new Deep("TARGET of GUARD", 32, (b, c) -> b.guard(b.leaf(32), c, b.leaf(32)), TRUTH, 0));
    }

    private static List<Deep> otherDeepOnes() {
        return List.of(new Deep("OTHER of GUARD", 32, (b, c) -> b.guard(c, b.leaf(32), b.leaf(32)), TRUTH, 0),
                new Deep("THIRD of GUARD", 32, (b, c) -> b.guard(b.leaf(32), b.leaf(32), c), TRUTH, 1),
                new Deep("SPREAD", 7, (b, c) -> b.spread(c, 0), INT, 5, ROW, 0),
                new Deep("COLLECT", 41, (b, c) -> b.collect(c, 1), LONG, 5),
                new Deep("WIDEN", 7, (b, c) -> b.widen(c, -1, LONG), INT, 5));
    }

    private static List<Deep> lastDeepOnes() {
        return List.of(new Deep("TARGET of LOOP", 0, (b, c) -> b.loop(b.constant(INT, 2), c), INT, 5),
                new Deep("OTHER of LOOP", 7, (b, c) -> b.loop(c, b.drop(b.leaf(0), 2, INT)), INT, 1, INT, -2),
                new Deep("TARGET of CATCH", 7, (b, c) -> b.caught(c, OWN, b.leaf(7)), INT, 5),
                new Deep("OTHER of CATCH", 7, (b, c) -> b.caught(b.leaf(8), OWN, c), INT, 5),
                new Deep("TARGET of ENSURE", 7, (b, c) -> b.ensure(c, b.leaf(53)), INT, 5),
                new Deep("OTHER of ENSURE", 53, (b, c) -> b.ensure(b.leaf(7), c), INT, 5),
                new Deep("SITE", 7, Bench::site, INT, 5));
    }

    private static void depthOfEachSort() {
        C.part("100 within one another");
        for (List<Deep> some : List.of(deepOnes(), otherDeepOnes(), lastDeepOnes())) {
            for (Deep deep : some) {
                deepest(deep);
            }
        }
    }

    private static void deepest(Deep deep) {
        Bench b = new Bench();
        int leaf = b.leaf(deep.function);
        int chain = sites(b, leaf, 98);
        int most = deep.around.of(b, chain);
        C.due(deep.name + ", 100", run(b, most, deep.args), 0);
        C.due(deep.name + ", no path", b.told(3), 0);
        int longer = b.site(chain);
        int more = deep.around.of(b, longer);
        fails(b, deep.name + ", 101", more, DEPTH, leaf, deep.args);
        C.due(deep.name + ", how long the path is", b.told(3), 101);
        for (int k = 1; k <= 99; k++) {
            C.due(deep.name + ", path(" + k + ")", b.path(k), k < 99 ? k : longer);
        }
        C.due(deep.name + ", the last of it", b.path(100), more);
        C.due(deep.name + ", beyond it", b.path(101), NONE);
        int two = b.site(most);
        fails(b, deep.name + ", 101 by a site", two, DEPTH, leaf, deep.args);
        C.due(deep.name + ", the last of it", b.path(100), two);
    }

    private static void depthEnds() {
        C.part("what ended is not within, and DEPTH ends the call");
        Bench b = new Bench();
        int leaf = b.leaf(7);
        int chain = sites(b, leaf, 98);
        comes(b, "two chains of 99", b.after(chain, chain), 5, INT, 5);
        spent(b, "two chains of 99", 199, 2);
        int deep = b.site(chain);
        int note = b.bind(b.leaf(50), 0, 8);
        fails(b, "no ENSURE goes on", b.ensure(deep, note), DEPTH, leaf, INT, 5);
        spent(b, "no ENSURE goes on", 100, 0, 0, 0, 0, 0, 0);
        int nine = b.constant(INT, 9);
        for (int kind : new int[] {1, 2, 3, 6}) {
            fails(b, "no CATCH goes on", b.caught(deep, kind, nine), DEPTH, leaf, INT, 5);
        }
        comes(b, "the next call", chain, -5, INT, 5);
        path(b, "the next call");
    }

    private static void rounds() {
        C.part("ROUNDS 0 to 999 of a LOOP");
        Bench b = new Bench();
        int counted = b.drop(b.drop(b.leaf(49), 0, LONG), 1, INT);
        int minus = b.leaf(7);
        int loop = b.loop(b.after(minus, minus), b.drop(counted, 2, INT));
        for (int n : new int[] {0, -1, -2, Integer.MIN_VALUE}) {
            comes(b, n + " rounds are none", loop, 77, LONG, 77, INT, n);
            spent(b, n + " rounds are none", 4, 2, 0, 0, 0, 0);
        }
        comes(b, "one", loop, 1, LONG, 77, INT, 1);
        spent(b, "one", 4 + 4, 3, 0, 0, 0, 1);
        comes(b, "999", loop, 1000, LONG, 77, INT, 999);
        comes(b, "1,000", loop, 2000, LONG, 77, INT, 1000);
        spent(b, "1,000", 4 + 4000, 1002, 0, 0, 0, 2000);
        for (int n : new int[] {1001, 1002, Integer.MAX_VALUE}) {
            long before = b.spent(5);
            fails(b, n + " rounds", loop, ROUNDS, loop, LONG, 77, INT, n);
            path(b, n + " rounds", loop);
            spent(b, n + " rounds", 4 + 4000, 1002, 0, 0, 0, before + 1000);
        }
        int note = b.bind(b.leaf(50), 0, 8);
        int ensured = b.ensure(loop, note);
        fails(b, "no ENSURE goes on", ensured, ROUNDS, loop, LONG, 77, INT, 1001);
        path(b, "no ENSURE goes on", loop, ensured);
        C.due("no note", b.spent(6), 0);
        int nine = b.constant(LONG, 9);
        int caught = b.caught(loop, OWN, nine);
        fails(b, "no CATCH goes on", caught, ROUNDS, loop, LONG, 77, INT, 1001);
        path(b, "no CATCH goes on", loop, caught);
        roundsOfEachLoop();
    }

    private static void roundsOfEachLoop() {
        Bench b = new Bench();
        int plus = b.leaf(0);
        int most = b.constant(INT, 1000);
        int loop = b.loop(most, plus);
        comes(b, "two loops of 1,000", b.after(loop, loop), 999000, INT, 0);
        int inner = b.drop(b.loop(b.constant(INT, 600), plus), 1, INT);
        int outer = b.loop(b.constant(INT, 2), inner);
        comes(b, "twice 600 within a loop", outer, 359400, INT, 0);
        int late = b.loop(b.constant(INT, 1001), plus);
        int within = b.loop(b.constant(INT, 3), b.drop(late, 1, INT));
        fails(b, "1,001 within a loop", within, ROUNDS, late, INT, 0);
        path(b, "1,001 within a loop", late, b.about(within, 1), within);
    }

    /** What fails without PARAMETERS and would come to an INT, and the HANDLE it fails at. */
    private record Failing(int kind, int handle, int at) {
    }

    private static List<Failing> eachFailure(Bench b) {
        int by = b.leaf(3);
        int rest = b.leaf(13);
        int own = b.leaf(8);
        int letter = b.leaf(47);
        int both = b.leaf(45);
        int long1 = b.leaf(15);
        int spread = b.spread(long1, 1);
        int toInt = b.drop(b.constant(INT, 1), 0, LONG);
        int joined = b.bind(b.bind(both, 0, word("abcdefgh")), 0, word("i"));
        return List.of(new Failing(ZERO, b.bind(b.bind(by, 0, 1), 0, 0), by),
                new Failing(ZERO, b.after(b.bind(b.bind(rest, 0, 1), 0, 0), toInt), rest),
                new Failing(BOUNDS, b.bind(b.bind(letter, 0, 0), 0, 0), letter),
                new Failing(BOUNDS, b.after(b.bind(spread, 0, 0), toInt), spread),
                new Failing(LENGTH, b.after(joined, b.leaf(48)), both),
                new Failing(OWN, b.bind(own, 0, -1), own));
    }

    private static void failuresOfACall() {
        C.part("20 failures by 1, 2, 3, 6 in a call");
        for (int k = 0; k < 6; k++) {
            Bench b = new Bench();
            Failing failing = eachFailure(b).get(k);
            int own = b.leaf(8);
            int caught = b.caught(failing.handle, failing.kind, b.constant(INT, 9));
            int body = b.drop(b.drop(caught, 0, INT), 1, INT);
            int most = b.loop(b.constant(INT, 20), body);
            comes(b, "20 of kind " + failing.kind, most, 9, INT, 0);
            C.due("20 are told", b.spent(4), 20);
            int more = b.loop(b.constant(INT, 21), body);
            fails(b, "21 of kind " + failing.kind, more, ROUNDS, failing.at, INT, 0);
            C.due("20 are told", b.spent(4), 20);
            C.due("the last of the path", b.path(b.told(3) - 1), more);
            int then = b.after(most, own);
            fails(b, "another one is the 21st", then, ROUNDS, own, INT, 0);
            int note = b.bind(b.leaf(50), 0, 8);
            fails(b, "no ENSURE goes on", b.ensure(more, note), ROUNDS, failing.at, INT, 0);
            C.due("no note", b.spent(6), 0);
            int less = b.loop(b.constant(INT, 19), body);
            fails(b, "the 20th is as it is", b.after(less, own), OWN, own, INT, 0);
            C.due("20 are told", b.spent(4), 20);
            fails(b, "the first one of a call", failing.handle, failing.kind, failing.at);
            C.due("one is told", b.spent(4), 1);
        }
        allKinds();
    }

    /** The kinds are counted together, and those of the OTHER of an ENSURE too. */
    private static void allKinds() {
        Bench b = new Bench();
        int rescue = b.constant(INT, 9);
        int chain = rescue;
        for (Failing failing : eachFailure(b)) {
            int caught = b.caught(failing.handle, failing.kind, rescue);
            chain = b.fold(b.drop(chain, 0, INT), caught);
        }
        comes(b, "one of each", chain, 9);
        C.due("six are told", b.spent(4), 6);
        int body = b.drop(b.drop(chain, 0, INT), 1, INT);
        int three = b.loop(b.constant(INT, 3), body);
        comes(b, "three of each", three, 9, INT, 0);
        C.due("18 are told", b.spent(4), 18);
        int four = b.loop(b.constant(INT, 4), body);
        C.due("four of each", run(b, four, INT, 0), ROUNDS);
        C.due("20 are told", b.spent(4), 20);
        Bench e = new Bench();
        int own = e.bind(e.leaf(8), 0, 1);
        int nothing = e.fold(e.drop(e.leaf(53), 0, INT), own);
        int ensured = e.caught(e.ensure(own, nothing), OWN, e.constant(INT, 9));
        int twice = e.drop(e.drop(ensured, 0, INT), 1, INT);
        comes(e, "ten times two", e.loop(e.constant(INT, 10), twice), 9, INT, 0);
        C.due("20 are told", e.spent(4), 20);
        fails(e, "eleven times two", e.loop(e.constant(INT, 11), twice), ROUNDS, 0, INT, 0);
    }

    /** What makes a row of n items of a ROW, so that it can be the body of a LOOP. */
    private static int partBody(Bench b, int part, int n) {
        return b.drop(b.bind(b.bind(part, 2, n), 1, 0), 1, INT);
    }

    private static int changeBody(Bench b, int change) {
        return b.drop(b.bind(b.bind(change, 2, 5), 1, 0), 1, INT);
    }

    private static int collectBody(Bench b, int collect) {
        int given = b.about(collect, 4) == 0 ? collect : b.bind(collect, 0, 5);
        return b.drop(b.drop(given, 0, LONG), 1, INT);
    }

    private static void rowsOfACall() {
        C.part("200 ROWS made in a call");
        Bench b = new Bench();
        b.board(0, 1);
        int part = b.leaf(42);
        int change = b.leaf(44);
        int sum = b.leaf(41);
        int collect = b.collect(sum, 1);
        int empty = b.collect(sum, 0);
        int[][] bodies = {{part, partBody(b, part, 0)}, {part, partBody(b, part, 1)}, {change, changeBody(b, change)},
            {collect, collectBody(b, collect)}, {empty, collectBody(b, empty)}};
        int[] items = {0, 1, 1, 1, 0};
        int most = b.constant(INT, 200);
        int more = b.constant(INT, 201);
        for (int k = 0; k < bodies.length; k++) {
            int at = bodies[k][0];
            int[] start = b.type(bodies[k][1], 0) == ROW ? new int[] {ROW, 0} : new int[] {LONG, 3};
            int loop = b.loop(most, bodies[k][1]);
            C.due("200 of " + at, run(b, loop, start[0], start[1]), 0);
            C.due("rows", b.spent(2), 200);
            C.due("items", b.spent(3), 200 * items[k]);
            int longer = b.loop(more, bodies[k][1]);
            fails(b, "201 of " + at, longer, ROOM, at, start[0], start[1]);
            C.due("rows", b.spent(2), 200);
            C.due("items", b.spent(3), 200 * items[k]);
            C.due("no failure of the others", b.spent(4), 0);
            C.due("the last of the path", b.path(b.told(3) - 1), longer);
        }
        rowsTogether(b, most, bodies);
    }

    private static void rowsTogether(Bench b, int most, int[][] bodies) {
        int part = bodies[0][0];
        int change = bodies[2][0];
        int collect = bodies[4][0];
        int parts = b.loop(most, bodies[1][1]);
        int none = b.bind(b.bind(part, 2, 0), 1, 0);
        int kept = b.after(parts, none);
        fails(b, "42 after 200", kept, ROOM, part, ROW, 0);
        fails(b, "44 after 200", b.after(parts, b.bind(b.bind(change, 2, 5), 1, 0)), ROOM, change, ROW, 0);
        fails(b, "COLLECT after 200", b.after(parts, b.drop(collect, 0, ROW)), ROOM, collect, ROW, 0);
        int note = b.bind(b.leaf(50), 0, 8);
        fails(b, "no ENSURE goes on", b.ensure(kept, note), ROOM, part, ROW, 0);
        C.due("no note", b.spent(6), 0);
        comes(b, "the next call", none, 0, ROW, 0);
        C.due("one row is told", b.spent(2), 1);
    }

    /** Makes 32 rows with 1,999 items of a row of 64, and comes to the last one, of 15 items. */
    private static int almostAllItems(Bench b, int part, int change) {
        int loop = b.bind(b.loop(b.constant(INT, 31), change), 1, 5);
        return b.after(loop, b.bind(b.bind(part, 2, 15), 1, 0));
    }

    private static void itemsOfACall() {
        C.part("2,000 items in the ROWS made in a call");
        Bench b = new Bench();
        b.board(0, 64);
        int part = b.leaf(42);
        int change = b.leaf(44);
        int sum = b.leaf(41);
        int almost = almostAllItems(b, part, change);
        comes(b, "1,999", almost, 15, ROW, 0);
        spent(b, "1,999", b.spent(0), 33 - 1, 32, 1999);
        int one = b.after(almost, b.bind(b.bind(part, 2, 1), 1, 0));
        comes(b, "2,000 by 42", one, 1, ROW, 0);
        spent(b, "2,000 by 42", b.spent(0), 33, 33, 2000);
        fails(b, "2,001 by 42", b.after(almost, b.bind(b.bind(part, 2, 2), 1, 0)), ROOM, part, ROW, 0);
        spent(b, "2,001 by 42", b.spent(0), 33, 32, 1999, 0);
        int changed = b.bind(b.bind(change, 2, 5), 1, 0);
        fails(b, "2,014 by 44", b.after(almost, changed), ROOM, change, ROW, 0);
        fails(b, "2,001 by 44", b.after(one, changed), ROOM, change, ROW, 0);
        spent(b, "2,001 by 44", b.spent(0), 34, 33, 2000, 0);
        int none = b.bind(b.bind(part, 2, 0), 1, 0);
        comes(b, "none more by 42", b.after(one, none), 0, ROW, 0);
        spent(b, "none more by 42", b.spent(0), 34, 34, 2000);
        int summed = b.after(almost, sum);
        int collect = b.collect(sum, 1);
        comes(b, "2,000 by COLLECT", b.after(summed, collect), 14 * 5 + 5, ROW, 0);
        C.due("items", b.spent(3), 2000);
        int two = b.collect(sum, 2);
        fails(b, "2,001 by COLLECT", b.after(summed, b.permute(two, 1, 0)), ROOM, two, ROW, 0);
        C.due("items", b.spent(3), 1999);
        C.due("rows", b.spent(2), 32);
        int zero = b.collect(sum, 0);
        int full = b.after(one, sum);
        comes(b, "none more by COLLECT", b.after(full, b.drop(zero, 0, LONG)), 0, ROW, 0);
        fails(b, "one more by COLLECT", b.after(full, collect), ROOM, collect, ROW, 0);
        comes(b, "1,999 in the next call", almost, 15, ROW, 0);
        int changes = b.loop(b.constant(INT, 40), changeBody(b, change));
        b.board(1, 50);
        comes(b, "40 of 50 by 44", changes, 50, ROW, 1);
        C.due("items", b.spent(3), 2000);
        b.board(1, 51);
        fails(b, "40 of 51 by 44", changes, ROOM, change, ROW, 1);
        spent(b, "40 of 51 by 44", b.spent(0), 40, 39, 39 * 51, 0);
    }

    private static void boundsAheadOfRoom() {
        C.part("no row is made beyond the bounds");
        Bench b = new Bench();
        b.board(0, 1);
        int part = b.leaf(42);
        int change = b.leaf(44);
        int most = b.loop(b.constant(INT, 200), partBody(b, part, 1));
        int wrongPart = b.bind(b.bind(part, 2, 2), 1, 0);
        int wrongChange = b.bind(b.bind(change, 2, 5), 1, 1);
        fails(b, "42 after 200", b.after(most, wrongPart), BOUNDS, part, ROW, 0);
        fails(b, "44 after 200", b.after(most, wrongChange), BOUNDS, change, ROW, 0);
        int same = b.permute(b.leaf(38), 2, order(0, 1, 1));
        int other = b.bind(same, 0, 1);
        comes(b, "what failed is caught", b.after(most, b.caught(wrongPart, BOUNDS, other)), 1, ROW, 0);
        spent(b, "what failed is caught", b.spent(0), 202, 200, 200, 1);
    }

    private static void rowsNotMade() {
        C.part("ROWS that are not made");
        Bench b = new Bench();
        row(b, 0, 4, 5);
        row(b, 1, 6);
        int choose = b.leaf(38);
        comes(b, "38", choose, 2, TRUTH, 1, ROW, 0, ROW, 1);
        spent(b, "38", 1, 1, 0, 0);
        comes(b, "a CONSTANT", b.constant(ROW, 0), 2);
        spent(b, "a CONSTANT", 1, 0, 0, 0);
        comes(b, "a BIND", b.bind(choose, 1, 0), 1, TRUTH, 0, ROW, 1);
        spent(b, "a BIND", 2, 1, 0, 0);
        comes(b, "a SPREAD", b.spread(b.leaf(10), 2), -1, ROW, 0);
        spent(b, "a SPREAD", 2, 1, 0, 0);
        comes(b, "a LOOP", b.loop(b.constant(INT, 300), b.drop(b.drop(b.bind(b.bind(choose, 0, 1), 1, 1), 1, INT), 2, WORD)),
                2, ROW, 0, WORD, 0);
        C.due("rows", b.spent(2), 0);
    }

    private static long mixed(long before, long... numbers) {
        long sum = before;
        for (long n : numbers) {
            sum = 31 * sum + n;
        }
        return sum;
    }

    /** Of 120 HANDLES, 6 ARGS and 8 rows of THE BOARD none has the row of another. */
    private static void rowsOfTheirOwn() {
        C.part("each ROW stands for itself, as many as there can be");
        Bench b = new Bench();
        b.board(0, 2);
        b.put(0, 0, 5);
        long due = 17;
        for (int h = 0; h < MOST_HANDLES; h++) {
            b.put(0, 1, 1000 + h);
            b.constant(ROW, 0);
            due = mixed(due, h, 1, ROW, NONE, NONE, NONE, 0, 2, 5, 1000 + h, 0);
        }
        for (int k = 0; k < 6; k++) {
            b.put(0, 1, 2000 + k);
            b.arg(ROW, 0);
            due = mixed(due, ROW, 2, 5, 2000 + k);
        }
        for (int k = 0; k < 8; k++) {
            b.board(k, 2);
            b.put(k, 0, 6);
            b.put(k, 1, 3000 + k);
            due = mixed(due, 2, 6, 3000 + k);
        }
        C.done(b, "all of them", b::digest, mixed(due, 0, 0));
        C.due("no arg is lost", b.noArgs(), 6);
        for (int h : new int[] {0, 1, 114, 118, 119}) {
            C.due("call", b.call(h), 0);
            items(b, "the row of " + h, 5, 1000 + h);
        }
    }

    private static void rowsMadeAreNoOthers() {
        C.part("each ROW made in a call stands for itself");
        Bench b = new Bench();
        for (int k = 0; k < 8; k++) {
            b.board(k, 64);
            b.put(k, 0, 40 + k);
            b.put(k, 63, 50 + k);
        }
        for (int k = 0; k < 8; k++) {
            b.constant(ROW, k);
        }
        row(b, 0, 1, 2, 3);
        int three = b.constant(ROW, 0);
        int change = b.leaf(44);
        int first = b.bind(b.bind(change, 2, 9), 1, 0);
        int second = b.bind(b.bind(change, 2, 8), 1, 1);
        int choose = b.permute(b.leaf(38), 3, order(2, 0, 1));
        int both = b.filter(b.fold(choose, second), 0, first);
        C.due("call", run(b, both, ROW, 0, TRUTH, 1), 0);
        items(b, "the second one made", 9, 8, 3);
        C.due("call", run(b, both, ROW, 0, TRUTH, 0), 0);
        items(b, "the first one made", 9, 2, 3);
        C.due("call", b.call(three), 0);
        items(b, "what they were made of", 1, 2, 3);
        b.board(0, 64);
        b.put(0, 0, 77);
        int rows = b.bind(b.loop(b.constant(INT, 31), change), 1, -5);
        long before = b.digest();
        C.due("31 rows of 64", run(b, rows, ROW, 0), 0);
        C.due("the last item that changed", b.item(30), -5);
        C.due("the item behind it", b.item(31), 0);
        C.done(b, "no other row has changed", b::digest, before);
        comes(b, "the first item of the first handle", b.after(0, b.bind(b.leaf(40), 1, 0)), 40);
        for (int h = 0; h < 8; h++) {
            C.due("call", b.call(h), 0);
            C.due("the first item of " + h, b.item(0), 40 + h);
            C.due("the last item of " + h, b.item(63), 50 + h);
        }
        int sum = b.leaf(41);
        for (int k = 1; k < 8; k++) {
            comes(b, "row " + k, sum, 90 + 2 * k, ROW, k);
        }
        comes(b, "the items of the first handle", b.after(0, sum), 90);
    }

    private static void traces() {
        C.part("200 FUNCTIONS of THE TRACE are kept");
        Bench b = new Bench();
        int plus = b.leaf(0);
        int count = b.leaf(7);
        int loop = b.loop(count, b.drop(plus, 2, INT));
        C.due("none yet", b.told(4), 0);
        for (int n : new int[] {0, 1, 198, 199, 200, 500}) {
            comes(b, n + " rounds", loop, 1000 + n * (n - 1) / 2, INT, 1000, INT, -n);
            int kept = Math.min(n + 1, 200);
            C.due("kept", b.told(4), kept);
            C.due("begun", b.spent(1), n + 1);
            C.due("the first one", b.trace(0, 1), 7);
            C.due("its number", b.trace(0, 0), count);
            C.due("its arg", b.trace(0, 3), -n);
            int last = kept - 1;
            C.due("the last one", b.trace(last, 1), n == 0 ? 7 : 0);
            C.due("how many args", b.trace(last, 2), n == 0 ? 1 : 2);
            C.due("the second arg", b.trace(last, 4), n == 0 ? 0 : last - 1);
            for (int what = 0; what <= 5; what++) {
                C.due("beyond the kept ones", b.trace(kept, what), 0);
                C.due("ahead of the first one", b.trace(-1, what), 0);
            }
        }
    }

    private static void callsOfAnObject() {
        C.part("512 calls of an object");
        CallBench b = new CallBench();
        b.leaf(49);
        for (int k = 0; k < 509; k++) {
            C.due("call " + k, b.call(0), 0);
        }
        C.due("the 511th call", b.result(), 509);
        C.due("the 512th call", b.spent(5), 509);
        CallBench h = new CallBench();
        for (int k = 0; k < 120; k++) {
            h.constant(LONG, k);
        }
        for (int k = 0; k < 119; k++) {
            h.pin(k, true);
        }
        for (int k = 0; k < 6; k++) {
            h.arg(LONG, k);
        }
        for (int k = 0; k < 264; k++) {
            C.due("a site is full", h.site(0), FULL);
        }
        C.due("one goes", h.sweep(), 1);
        C.due("one comes", h.leaf(53), 119);
        C.due("the 512th call", h.arity(119), 0);
    }
}
