/** EVAL of each sort at its edges: what is begun and in which order, what fails where, and what goes on. */
public final class EvalTest extends Sheet {
    private EvalTest() {
    }

    public static void main(String[] args) {
        binds();
        drops();
        permutes();
        filters();
        afters();
        folds();
        guards();
        spreads();
        collects();
        widens();
        loops();
        loopsThatFail();
        catches();
        catchesOfEachKind();
        ensures();
        ensuresAndCatches();
        sites();
        ways();
        C.end("EvalTest");
    }

    private static void binds() {
        C.part("BIND: its VALUE at its place among the ARGS");
        Bench b = new Bench();
        int choose = b.leaf(36);
        long[] values = {0, 5, 6};
        long[][] rest = {{LONG, 5, LONG, 6}, {TRUTH, 0, LONG, 6}, {TRUTH, 0, LONG, 5}};
        for (int i = 0; i < 3; i++) {
            int bound = b.bind(choose, i, values[i]);
            about(b, bound, 2, choose, NONE, NONE, i);
            comes(b, "at " + i, bound, 6, rest[i]);
            for (int k = 0; k < 3; k++) {
                C.due("arg " + k, b.trace(0, 3 + k), values[k]);
            }
            spent(b, "at " + i, 2, 1);
            traced(b, "at " + i, choose);
        }
        int all = b.bind(b.bind(b.bind(choose, 2, 9), 0, 1), 0, 8);
        type(b, all, LONG);
        comes(b, "all are bound", all, 8);
        spent(b, "all are bound", 4, 1);
        int last = b.bind(widened(b, choose, 6, ROW), 5, 0);
        type(b, last, LONG, TRUTH, LONG, LONG, ROW, ROW);
        comes(b, "the last of six", last, 4, TRUTH, 1, LONG, 4, LONG, 3, ROW, 0, ROW, 1);
        int fails = b.bind(b.bind(b.leaf(3), 1, 0), 0, 4);
        fails(b, "it fails", fails, ZERO, b.about(b.about(fails, 1), 1));
        path(b, "it fails", b.about(b.about(fails, 1), 1), b.about(fails, 1), fails);
    }

    private static void drops() {
        C.part("DROP: without the ARG at its place");
        Bench b = new Bench();
        int less = b.leaf(1);
        long[][] args = {{WORD, 1, INT, 9, INT, 4}, {INT, 9, WORD, 1, INT, 4}, {INT, 9, INT, 4, WORD, 1}};
        for (int i = 0; i <= 2; i++) {
            int dropped = b.drop(less, i, WORD);
            about(b, dropped, 3, less, NONE, NONE, i);
            comes(b, "at " + i, dropped, 5, args[i]);
            spent(b, "at " + i, 2, 1);
        }
        for (int kind = INT; kind <= ROW; kind++) {
            int one = b.drop(b.leaf(49), 0, kind);
            type(b, one, LONG, kind);
            C.due("of kind " + kind, run(b, one, kind, 1), 0);
        }
        int six = b.drop(widened(b, less, 5, INT), 0, INT);
        comes(b, "of six", six, 7, INT, 1, INT, 10, INT, 3, INT, 0, INT, 0, INT, 0);
    }

    private static void permutes() {
        C.part("PERMUTE: the ARGS that its ORDER tells");
        Bench b = new Bench();
        int change = b.leaf(44);
        int turned = b.permute(change, 3, order(1, 2, 0));
        type(b, turned, ROW, LONG, ROW, INT);
        row(b, 0, 5, 6, 7);
        C.due("call", run(b, turned, LONG, 9, ROW, 0, INT, 1), 0);
        items(b, "turned", 5, 9, 7);
        spent(b, "turned", 2, 1);
        int less = b.leaf(1);
        comes(b, "both the same", b.permute(less, 1, order(0, 0)), 0, INT, 9);
        comes(b, "the other way", b.permute(less, 2, order(1, 0)), -5, INT, 9, INT, 4);
        comes(b, "the same way", b.permute(less, 2, order(0, 1)), 5, INT, 9, INT, 4);
        int beyond = b.permute(less, 2, order(1, 0) | 7 << 6 | 1 << 31);
        about(b, beyond, 4, less, NONE, NONE, order(1, 0));
        comes(b, "what does not matter", beyond, -5, INT, 9, INT, 4);
        int one = b.permute(b.leaf(7), 1, -8);
        about(b, one, 4, b.about(one, 1), NONE, NONE, 0);
        int none = b.permute(b.leaf(53), 0, -1);
        about(b, none, 4, b.about(none, 1), NONE, NONE, 0);
        comes(b, "of none", none, 0);
        spent(b, "of none", 2, 1);
    }

    private static void filters() {
        C.part("FILTER: its OTHER with the ARG at its place, then its TARGET");
        Bench b = new Bench();
        int less = b.leaf(1);
        int letters = b.leaf(48);
        int own = b.leaf(8);
        int first = b.filter(less, 0, letters);
        int second = b.filter(less, 1, letters);
        type(b, first, INT, WORD, INT);
        type(b, second, INT, INT, WORD);
        comes(b, "at 0", first, -1, WORD, word("abc"), INT, 4);
        traced(b, "at 0", letters, less);
        spent(b, "at 0", 3, 2);
        comes(b, "at 1", second, 1, INT, 4, WORD, word("abc"));
        C.due("the first arg of the target", b.trace(1, 3), 4);
        C.due("the second arg of the target", b.trace(1, 4), 3);
        int failing = b.filter(less, 1, own);
        fails(b, "the other fails", failing, OWN, own, INT, 4, INT, 3);
        path(b, "the other fails", own, failing);
        traced(b, "the other fails", own);
        int by = b.leaf(3);
        int target = b.filter(by, 1, own);
        fails(b, "the target fails", target, ZERO, by, INT, 4, INT, 0);
        path(b, "the target fails", by, target);
        int last = b.filter(widened(b, less, 6, INT), 5, letters);
        comes(b, "the last of six", last, 5, INT, 9, INT, 4, INT, 0, INT, 0, INT, 0, WORD, 0);
    }

    private static void afters() {
        C.part("AFTER: its TARGET, then its OTHER with what came, with none if that is NOTHING");
        Bench b = new Bench();
        int less = b.leaf(1);
        int minus = b.leaf(7);
        int note = b.leaf(50);
        int told = b.leaf(51);
        int nothing = b.leaf(53);
        int both = b.after(less, minus);
        type(b, both, INT, INT, INT);
        comes(b, "with what came", both, -5, INT, 9, INT, 4);
        traced(b, "with what came", less, minus);
        C.due("the arg of the other", b.trace(1, 3), 5);
        spent(b, "with what came", 3, 2);
        int noted = b.after(note, told);
        type(b, noted, LONG, LONG);
        comes(b, "with none", noted, 33, LONG, 33);
        traced(b, "with none", note, told);
        C.due("the other has no args", b.trace(1, 2), 0);
        int twice = b.after(noted, note);
        type(b, twice, NOTHING, LONG);
        comes(b, "nothing comes", twice, 0, LONG, 34);
        C.due("the note", b.spent(6), 34);
        int none = b.after(nothing, nothing);
        type(b, none, NOTHING);
        comes(b, "nothing after nothing", none, 0);
        spent(b, "nothing after nothing", 3, 2);
        int own = b.leaf(8);
        int failing = b.after(own, minus);
        fails(b, "the target fails", failing, OWN, own, INT, 1);
        traced(b, "the target fails", own);
        path(b, "the target fails", own, failing);
        int later = b.after(minus, own);
        fails(b, "the other fails", later, OWN, own, INT, 1);
        traced(b, "the other fails", minus, own);
        path(b, "the other fails", own, later);
    }

    private static void folds() {
        C.part("FOLD: its OTHER with the FIRST ARGS, then its TARGET with what came ahead of the ARGS");
        Bench b = new Bench();
        int change = b.leaf(44);
        int less = b.leaf(1);
        int minus = b.leaf(7);
        int note = b.leaf(50);
        int count = b.leaf(49);
        int folded = b.fold(less, minus);
        type(b, folded, INT, INT);
        comes(b, "what came is ahead", folded, -18, INT, 9);
        traced(b, "what came is ahead", minus, less);
        C.due("ahead", b.trace(1, 3), -9);
        C.due("behind", b.trace(1, 4), 9);
        spent(b, "what came is ahead", 3, 2);
        int longs = b.leaf(10);
        int noted = b.fold(longs, note);
        type(b, noted, LONG, LONG, LONG);
        comes(b, "nothing came", noted, 5, LONG, 9, LONG, 4);
        traced(b, "nothing came", note, longs);
        C.due("the first arg is noted", b.spent(6), 9);
        int counted = b.fold(longs, count);
        type(b, counted, LONG, LONG);
        comes(b, "of no parameters", counted, -3, LONG, 4);
        int wide = b.fold(b.drop(longs, 2, ROW), b.drop(count, 0, LONG));
        type(b, wide, LONG, LONG, ROW);
        comes(b, "of the first of two", wide, -2, LONG, 4, ROW, 0);
        int none = b.fold(count, b.leaf(53));
        type(b, none, LONG);
        comes(b, "nothing ahead of none", none, 3);
        row(b, 0, 5, 6);
        int rows = b.fold(change, b.constant(ROW, 0));
        type(b, rows, ROW, INT, LONG);
        C.due("a row ahead", run(b, rows, INT, 1, LONG, 8), 0);
        items(b, "a row ahead", 5, 8);
        int own = b.leaf(8);
        int failing = b.fold(less, own);
        fails(b, "the other fails", failing, OWN, own, INT, 1);
        traced(b, "the other fails", own);
        path(b, "the other fails", own, failing);
        int six = b.fold(widened(b, less, 6, INT), minus);
        comes(b, "of five", six, -18, INT, 9, INT, 0, INT, 0, INT, 0, INT, 0);
    }

    private static void guards() {
        C.part("GUARD: its OTHER with the FIRST ARGS, then its TARGET if that came to 1, else its THIRD");
        Bench b = new Bench();
        int plus = b.leaf(0);
        int less = b.leaf(1);
        int below = b.leaf(24);
        int guard = b.guard(below, plus, less);
        about(b, guard, 8, plus, below, less, 0);
        comes(b, "it came to 1", guard, 7, INT, 3, INT, 4);
        traced(b, "it came to 1", below, plus);
        comes(b, "it came to 0", guard, 0, INT, 4, INT, 4);
        traced(b, "it came to 0", below, less);
        spent(b, "it came to 0", 3, 2);
        int by = b.leaf(3);
        int firstArg = b.drop(b.leaf(32), 1, INT);
        C.due("two first ones", b.arity(firstArg), 2);
        int choose = b.leaf(35);
        int not = b.leaf(32);
        int one = b.guard(not, choose, choose);
        comes(b, "of the first one", one, 5, TRUTH, 0, INT, 4, INT, 5);
        C.due("of the first one alone", b.trace(0, 2), 1);
        int two = b.guard(firstArg, choose, choose);
        comes(b, "of the first two", two, 4, TRUTH, 1, INT, 4, INT, 5);
        int always = b.constant(TRUTH, 1);
        comes(b, "of none", b.guard(always, plus, by), 4, INT, 4, INT, 0);
        fails(b, "of none, the third", b.guard(b.constant(TRUTH, 0), plus, by), ZERO, by, INT, 4, INT, 0);
        int test = b.after(by, b.bind(below, 1, 0));
        int failing = b.guard(test, plus, less);
        fails(b, "the test fails", failing, ZERO, by, INT, 4, INT, 0);
        path(b, "the test fails", by, test, failing);
        traced(b, "the test fails", by);
        int yes = b.guard(always, by, plus);
        fails(b, "the branch fails", yes, ZERO, by, INT, 4, INT, 0);
        path(b, "the branch fails", by, yes);
        int note = b.leaf(50);
        int nothing = b.guard(always, note, note);
        type(b, nothing, NOTHING, LONG);
        comes(b, "of nothing", nothing, 0, LONG, 7);
    }

    private static void spreads() {
        C.part("SPREAD: the last ARG must have its NUMBER of items");
        Bench b = new Bench();
        int choose = b.leaf(36);
        int none = b.leaf(49);
        row(b, 1, 7);
        row(b, 2, 7, 8);
        row(b, 3, 7, 8, 9);
        int[] spreads = {b.spread(choose, 0), b.spread(choose, 1), b.spread(choose, 2)};
        type(b, spreads[0], LONG, TRUTH, LONG, LONG, ROW);
        type(b, spreads[1], LONG, TRUTH, LONG, ROW);
        type(b, spreads[2], LONG, TRUTH, ROW);
        for (int n = 0; n <= 3; n++) {
            spread(b, spreads[0], n == 0, 2, TRUTH, 0, LONG, 1, LONG, 2, ROW, n);
            spread(b, spreads[1], n == 1, 7, TRUTH, 0, LONG, 1, ROW, n);
            spread(b, spreads[2], n == 2, 8, TRUTH, 0, ROW, n);
            spread(b, b.spread(none, 0), n == 0, 1, ROW, n);
        }
        int sum = b.collect(b.leaf(41), 6);
        int six = b.spread(sum, 6);
        row(b, 6, 1, 2, 3, 4, 5, 6);
        comes(b, "six", six, 21, ROW, 6);
        C.due("they are collected", b.spent(2), 1);
        row(b, 5, 1, 2, 3, 4, 5);
        fails(b, "five", six, BOUNDS, six, ROW, 5);
        path(b, "five", six);
        row(b, 5, 1, 2, 3, 4, 5, 6, 7);
        fails(b, "seven", six, BOUNDS, six, ROW, 5);
        int caught = b.caught(six, BOUNDS, b.leaf(41));
        comes(b, "it can be caught", caught, 28, ROW, 5);
        C.due("one failure", b.spent(4), 1);
    }

    private static void spread(Bench b, int h, boolean good, long due, long... args) {
        if (good) {
            comes(b, "as many items", h, due, args);
            spent(b, "as many items", 2, 1, 0, 0, 0);
        } else {
            fails(b, "another number of items", h, BOUNDS, h, args);
            path(b, "another number of items", h);
            spent(b, "another number of items", 1, 0, 0, 0, 1);
        }
    }

    private static void collects() {
        C.part("COLLECT: a ROW of its NUMBER of last ARGS");
        Bench b = new Bench();
        int choose = b.leaf(38);
        long[][] args = {{}, {LONG, 4}, {LONG, 4, LONG, 5}, {LONG, 4, LONG, 5, LONG, 6},
            {LONG, 4, LONG, 5, LONG, 6, LONG, 7}};
        for (int n = 0; n <= 4; n++) {
            int collect = b.collect(choose, n);
            C.due("arity", b.arity(collect), 2 + n);
            long[] all = new long[4 + 2 * n];
            all[0] = TRUTH;
            all[2] = ROW;
            System.arraycopy(args[n], 0, all, 4, 2 * n);
            C.due("call", run(b, collect, all), 0);
            long[] due = new long[n];
            for (int i = 0; i < n; i++) {
                due[i] = 4 + i;
            }
            items(b, n + " are collected", due);
            spent(b, n + " are collected", 2, 1, 1, n, 0);
            C.due("the trace tells how many", b.trace(0, 5), n);
        }
        int item = b.collect(b.permute(b.leaf(40), 2, order(1, 0)), 2);
        type(b, item, LONG, INT, LONG, LONG);
        comes(b, "behind an arg", item, 8, INT, 1, LONG, 7, LONG, 8);
        fails(b, "it fails within", item, BOUNDS, b.about(b.about(item, 1), 1), INT, 2, LONG, 7, LONG, 8);
        path(b, "it fails within", b.about(b.about(item, 1), 1), b.about(item, 1), item);
        C.due("the row is made", b.spent(2), 1);
    }

    private static void widens() {
        C.part("WIDEN: the ARG at its place WIDENED, or what came");
        Bench b = new Bench();
        int reals = b.leaf(17);
        int own = b.leaf(8);
        int first = b.widen(reals, 0, INT);
        int second = b.widen(reals, 1, LONG);
        int both = b.widen(first, 1, LONG);
        comes(b, "the first arg", first, real(-7.5), INT, -7, REAL, real(0.5));
        comes(b, "the second arg", second, real(7.5), REAL, real(0.5), LONG, -7);
        comes(b, "both args", both, real(-2), INT, -9, LONG, -7);
        spent(b, "both args", 3, 1);
        traced(b, "both args", reals);
        int again = b.widen(b.widen(reals, 0, LONG), 0, INT);
        comes(b, "one after the other", again, real(3), INT, 4, REAL, real(1));
        int result = b.widen(b.widen(own, -1, LONG), -1, REAL);
        type(b, result, REAL, INT);
        comes(b, "what came", result, 0, INT, 0);
        spent(b, "what came", 3, 1);
        fails(b, "it fails", result, OWN, own, INT, 1);
        path(b, "it fails", own, b.about(result, 1), result);
        int minus = b.leaf(15);
        int wide = b.widen(minus, -1, REAL);
        comes(b, "the least one that came", wide, real(-9223372036854775808.0), LONG, Long.MIN_VALUE);
    }

    private static void loops() {
        C.part("LOOP: V, the ROUND, and the ARGS behind ARG 0");
        Bench b = new Bench();
        int less = b.leaf(1);
        int minus = b.leaf(7);
        int three = b.constant(INT, 3);
        int body = b.drop(less, 2, INT);
        int loop = b.loop(minus, body);
        type(b, loop, INT, INT, INT);
        about(b, loop, 12, body, minus, NONE, 0);
        comes(b, "three rounds", loop, 97, INT, 100, INT, -3);
        traced(b, "three rounds", minus, less, less, less);
        for (int k = 0; k < 3; k++) {
            C.due("v of round " + k, b.trace(1 + k, 3), new long[] {100, 100, 99}[k]);
            C.due("round " + k, b.trace(1 + k, 4), k);
        }
        spent(b, "three rounds", 2 + 6, 4);
        for (int n : new int[] {0, 1, Integer.MAX_VALUE}) {
            comes(b, "none for " + -n, loop, 100, INT, 100, INT, n);
            spent(b, "none for " + -n, 2, 1);
        }
        comes(b, "one round", loop, 100, INT, 100, INT, -1);
        spent(b, "one round", 4, 2);
        int change = b.leaf(44);
        int letters = b.leaf(48);
        row(b, 0, 5, 6, 7, 8);
        int rows = b.loop(b.drop(three, 0, LONG), change);
        type(b, rows, ROW, ROW, LONG);
        C.due("a row", run(b, rows, ROW, 0, LONG, 9), 0);
        items(b, "a row", 9, 9, 9, 8);
        int six = widened(b, b.drop(less, 2, WORD), 6, ROW);
        int wide = b.loop(letters, six);
        type(b, wide, INT, INT, WORD, ROW, ROW, ROW);
        comes(b, "of six", wide, -1, INT, 0, WORD, word("xy"), ROW, 0, ROW, 0, ROW, 0);
    }

    private static void loopsThatFail() {
        C.part("LOOP: what fails within");
        Bench b = new Bench();
        int by = b.leaf(3);
        int own = b.leaf(8);
        int three = b.constant(INT, 3);
        int loop = b.loop(three, by);
        fails(b, "round 0 fails", loop, ZERO, by, INT, 8);
        path(b, "round 0 fails", by, loop);
        spent(b, "round 0 fails", 3, 1, 0, 0, 1);
        int nine = b.constant(INT, 9);
        int caught = b.caught(by, ZERO, nine);
        comes(b, "round 0 is caught", b.loop(three, caught), 4, INT, 8);
        int toTwo = b.bind(b.leaf(1), 0, 2);
        int later = b.filter(by, 1, toTwo);
        int third = b.loop(three, later);
        fails(b, "round 2 fails", third, ZERO, by, INT, 8);
        path(b, "round 2 fails", by, later, third);
        C.due("v of it", b.trace(5, 3), 4);
        C.due("the rest of it", b.trace(5, 4), 0);
        spent(b, "round 2 fails", 2 + 3 * 4, 6, 0, 0, 1);
        comes(b, "two rounds", b.loop(b.constant(INT, 2), later), 4, INT, 8);
        int count = b.loop(own, b.drop(by, 2, INT));
        fails(b, "the count fails", count, OWN, own, INT, 8, INT, 2);
        path(b, "the count fails", own, count);
        spent(b, "the count fails", 2, 1, 0, 0, 1);
        comes(b, "no round", count, 8, INT, 8, INT, 0);
    }

    private static void catches() {
        C.part("CATCH: of its OTHER with the FIRST ARGS, if its TARGET failed by its KIND");
        Bench b = new Bench();
        int by = b.leaf(3);
        int less = b.leaf(1);
        int minus = b.leaf(7);
        int nine = b.constant(INT, 9);
        int own = b.leaf(8);
        int all = b.caught(by, ZERO, less);
        int one = b.caught(by, ZERO, minus);
        int none = b.caught(by, ZERO, nine);
        comes(b, "it came", all, 2, INT, 8, INT, 4);
        spent(b, "it came", 2, 1, 0, 0, 0);
        comes(b, "with all args", all, 8, INT, 8, INT, 0);
        traced(b, "with all args", by, less);
        spent(b, "with all args", 3, 2, 0, 0, 1);
        path(b, "with all args");
        comes(b, "with the first one", one, -8, INT, 8, INT, 0);
        C.due("with the first one alone", b.trace(1, 2), 1);
        comes(b, "with none", none, 9, INT, 8, INT, 0);
        int again = b.caught(by, ZERO, own);
        fails(b, "the other fails", again, OWN, own, INT, 8, INT, 0);
        path(b, "the other fails", own, again);
        spent(b, "the other fails", 3, 2, 0, 0, 2);
        int same = b.caught(by, ZERO, by);
        fails(b, "the other fails by the same", same, ZERO, by, INT, 8, INT, 0);
        spent(b, "the other fails by the same", 3, 2, 0, 0, 2);
        int outer = b.caught(same, ZERO, nine);
        comes(b, "that is caught further out", outer, 9, INT, 8, INT, 0);
        spent(b, "that is caught further out", 5, 2, 0, 0, 2);
        int note = b.leaf(50);
        int noted = b.fold(b.drop(b.leaf(13), 2, LONG), b.constant(LONG, 5));
        int nothing = b.after(noted, note);
        int caught = b.caught(nothing, ZERO, note);
        type(b, caught, NOTHING, LONG, LONG);
        comes(b, "of nothing", caught, 0, LONG, 0, LONG, 6);
        C.due("the note", b.spent(6), 0);
        C.due("the other is begun", b.trace(1, 0), note);
    }

    private static void catchesOfEachKind() {
        C.part("CATCH: by its KIND of failure alone");
        int[] kinds = {ZERO, BOUNDS, LENGTH, OWN};
        for (int k = 0; k < kinds.length; k++) {
            Bench b = new Bench();
            int letters = b.leaf(48);
            int own = b.leaf(8);
            int by = b.bind(b.bind(b.leaf(3), 0, 1), 0, 0);
            int bounds = b.bind(b.bind(b.leaf(47), 0, 0), 0, 0);
            int length = b.after(b.bind(b.bind(b.leaf(45), 0, word("abcdefgh")), 0, 1), letters);
            int[] failing = {by, bounds, length, b.bind(own, 0, 5)};
            int nine = b.constant(INT, 9);
            for (int kind : kinds) {
                int caught = b.caught(failing[k], kind, nine);
                about(b, caught, 13, failing[k], nine, NONE, kind);
                if (kind == kinds[k]) {
                    comes(b, kinds[k] + " caught by " + kind, caught, 9);
                } else {
                    C.due(kinds[k] + " not caught by " + kind, run(b, caught), kinds[k]);
                    C.due("the catch is last", b.path(b.told(3) - 1), caught);
                }
                C.due("one failure", b.spent(4), 1);
            }
        }
    }

    private static void ensures() {
        C.part("ENSURE: of its OTHER, whether it came or failed by 1, 2, 3, 6");
        Bench b = new Bench();
        int by = b.leaf(12);
        int note = b.leaf(50);
        int none = b.bind(note, 0, 77);
        int first = b.ensure(by, note);
        int bound = b.ensure(by, none);
        comes(b, "it came", first, 4, LONG, 8, LONG, 2);
        traced(b, "it came", by, note);
        C.due("the first arg is noted", b.spent(6), 8);
        spent(b, "it came", 3, 2, 0, 0, 0);
        fails(b, "it failed", first, ZERO, by, LONG, 9, LONG, 0);
        path(b, "it failed", by, first);
        C.due("the first arg is noted", b.spent(6), 9);
        spent(b, "it failed", 3, 2, 0, 0, 1);
        fails(b, "with none", bound, ZERO, by, LONG, 9, LONG, 0);
        C.due("its own is noted", b.spent(6), 77);
        int each = b.fold(b.drop(b.leaf(8), 0, LONG), b.leaf(49));
        int nothing = b.after(each, b.drop(b.leaf(53), 0, INT));
        type(b, nothing, NOTHING, INT);
        int ints = b.leaf(3);
        int strict = b.ensure(ints, nothing);
        int own = b.about(b.about(each, 1), 1);
        fails(b, "it came, the other failed", strict, OWN, own, INT, 8, INT, 2);
        path(b, "it came, the other failed", own, b.about(each, 1), each, nothing, strict);
        C.due("one failure", b.spent(4), 1);
        fails(b, "both failed", strict, OWN, own, INT, 8, INT, 0);
        path(b, "both failed", own, b.about(each, 1), each, nothing, strict);
        C.due("two failures", b.spent(4), 2);
        fails(b, "it failed, the other came", strict, ZERO, ints, INT, 0, INT, 0);
        path(b, "it failed, the other came", ints, strict);
        C.due("one failure", b.spent(4), 1);
        int all = b.ensure(note, note);
        type(b, all, NOTHING, LONG);
        comes(b, "of nothing", all, 0, LONG, 6);
        traced(b, "of nothing", note, note);
    }

    private static void ensuresAndCatches() {
        C.part("ENSURE and CATCH around one another");
        Bench b = new Bench();
        int own = b.leaf(8);
        int nine = b.constant(INT, 9);
        int note = b.leaf(50);
        int one = b.bind(note, 0, 1);
        int two = b.bind(note, 0, 2);
        int inner = b.ensure(own, one);
        int outer = b.ensure(inner, two);
        fails(b, "from within outwards", outer, OWN, own, INT, 5);
        path(b, "from within outwards", own, inner, outer);
        traced(b, "from within outwards", own, note, note);
        C.due("the inner one first", b.trace(1, 3), 1);
        C.due("then the outer one", b.trace(2, 3), 2);
        int caught = b.caught(outer, OWN, nine);
        comes(b, "caught behind both", caught, 9, INT, 5);
        spent(b, "caught behind both", 9, 3, 0, 0, 1);
        path(b, "caught behind both");
        int around = b.ensure(caught, b.bind(note, 0, 3));
        comes(b, "ensured behind it", around, 9, INT, 5);
        C.due("the last note", b.spent(6), 3);
        // What arises and is caught within an ENSURE's OTHER does not hide what failed before, nor its PATH.
        int quietly = b.after(b.drop(b.caught(b.bind(own, 0, 1), OWN, nine), 0, INT), b.drop(b.leaf(53), 0, INT));
        int ensured = b.ensure(own, quietly);
        fails(b, "another one in between", ensured, OWN, own, INT, 5);
        path(b, "another one in between", own, ensured);
        C.due("two failures", b.spent(4), 2);
        int deep = b.site(b.site(ensured));
        fails(b, "further within", deep, OWN, own, INT, 5);
        path(b, "further within", own, ensured, b.about(deep, 1), deep);
        comes(b, "it came, another one in between", ensured, 0, INT, 0);
        path(b, "it came, another one in between");
    }

    private static void sites() {
        C.part("SITE: its TARGET with the ARGS, the one it has now");
        Bench b = new Bench();
        int plus = b.leaf(0);
        int less = b.leaf(1);
        int by = b.leaf(3);
        int site = b.site(plus);
        int over = b.permute(site, 2, order(1, 0));
        comes(b, "at first", over, 12, INT, 8, INT, 4);
        spent(b, "at first", 3, 1);
        for (int n = 1; n <= 3; n++) {
            int target = new int[] {less, by, plus}[n - 1];
            int times = n;
            C.done(b, "retarget", () -> b.retarget(site, target), times);
            about(b, site, 15, target, NONE, NONE, n);
            about(b, over, 4, site, NONE, NONE, order(1, 0));
            comes(b, "changed", over, new int[] {-4, 0, 12}[n - 1], INT, 8, INT, 4);
            traced(b, "changed", target);
        }
        b.retarget(site, by);
        fails(b, "it fails", over, ZERO, by, INT, 0, INT, 4);
        path(b, "it fails", by, site, over);
        b.retarget(site, plus);
        path(b, "the path stays", by, site, over);
    }

    private static void ways() {
        C.part("the PATH: those that had begun and not ended, from within outwards");
        Bench b = new Bench();
        int own = b.leaf(8);
        int minus = b.leaf(7);
        int twice = b.after(minus, minus);
        int filter = b.filter(own, 0, twice);
        int fold = b.fold(b.drop(filter, 0, INT), twice);
        int drop = b.about(fold, 1);
        int site = b.site(fold);
        int bound = b.bind(site, 0, 5);
        fails(b, "what ended is not in it", bound, OWN, own);
        path(b, "what ended is not in it", own, filter, drop, fold, site, bound);
        int other = b.filter(minus, 0, filter);
        fails(b, "within an other", other, OWN, own, INT, 1);
        path(b, "within an other", own, filter, other);
        int three = b.constant(INT, 3);
        int body = b.drop(other, 1, INT);
        int loop = b.loop(three, body);
        fails(b, "within a loop", loop, OWN, own, INT, 1);
        path(b, "within a loop", own, filter, other, body, loop);
        comes(b, "none when it came", loop, 0, INT, 0);
        path(b, "none when it came");
        C.refused(b, "a refused call", () -> b.call(loop), TYPE, 1);
        path(b, "none after a refused one");
        fails(b, "it failed", other, OWN, own, INT, 1);
        C.refused(b, "a refused call", () -> b.call(loop), TYPE, 1);
        path(b, "as it was after a refused one", own, filter, other);
        b.sweep();
        path(b, "it stays over a sweep", own, filter, other);
        C.due("none such", b.arity(own), UNKNOWN);
        for (int k : new int[] {-1, 3, Integer.MIN_VALUE, Integer.MAX_VALUE}) {
            C.due("path(" + k + ")", b.path(k), NONE);
        }
    }
}
