import java.util.ArrayList;
import java.util.List;
import java.util.function.Consumer;
import java.util.function.Supplier;
import java.util.function.ToLongFunction;

/**
 * Calls that are refused: the first refusal of "Terms" that fits is answered, of the RULES the least one,
 * status() and rule() tell it, and nothing else changes, whatever stood before.
 */
public final class RefusalsTest extends Sheet {
    /** The HANDLES of busy(), by their numbers. */
    private static final int BY = 0, BELOW = 1, SUM = 2, LETTERS = 3, NOTE = 4, CHOOSE = 5, CHANGE = 6, COUNT = 7,
            PLAIN = 8, THREE = 9, SITE = 10, OVER = 11, SELECT = 12, SIX = 15, LESS = 16, FREE = 17;
    /** No HANDLE of busy() has these numbers; 17 was swept. */
    private static final int[] NONE_SUCH = {-1, FREE, 60, 119, 120, 121, Integer.MIN_VALUE, Integer.MAX_VALUE};
    private static final int[] NONE_WHEN_FULL = {-1, 120, Integer.MIN_VALUE, Integer.MAX_VALUE};

    private RefusalsTest() {
    }

    public static void main(String[] args) {
        boards();
        makers();
        binds();
        drops();
        permutes();
        filters();
        afters();
        folds();
        guards();
        spreads();
        collects();
        widens();
        loops();
        catches();
        ensures();
        sites();
        args();
        calls();
        asked();
        latest();
        C.end("RefusalsTest");
    }

    /** Many HANDLES, ARGS and rows, one PINNED; no call has ended. */
    private static Bench idle() {
        Bench b = new Bench();
        row(b, 0, 5, 6, 7);
        row(b, 7, 8);
        for (int f : new int[] {3, 24, 41, 48, 50, 36, 44, 49, 53}) {
            b.leaf(f);
        }
        b.constant(INT, 3);
        b.site(BY);
        b.permute(OVER - 1, 2, order(1, 0));
        b.leaf(38);
        widened(b, SELECT, 6, INT);
        b.leaf(1);
        b.leaf(0);
        for (int h = 0; h < FREE; h++) {
            b.pin(h, true);
        }
        b.sweep();
        for (int h = 0; h < FREE; h++) {
            b.pin(h, h == SITE);
        }
        b.arg(LONG, 4);
        b.arg(ROW, 0);
        return b;
    }

    /** The latest call failed, with a PATH. */
    private static Bench failed() {
        Bench b = idle();
        b.noArgs();
        b.call(COUNT);
        run(b, NOTE, LONG, 9);
        run(b, OVER, INT, 0, INT, 5);
        b.arg(INT, 4);
        b.arg(WORD, 1);
        b.arg(ROW, 0);
        C.due("a call failed", b.how(), ZERO);
        C.due("with a path", b.told(3), 3);
        return b;
    }

    /** A ROW came of the latest call, and it was made in it. */
    private static Bench came() {
        Bench b = idle();
        run(b, CHANGE, ROW, 0, INT, 1, LONG, 77);
        b.arg(ROW, 7);
        C.due("a row came", b.result(), 3);
        C.due("it was made", b.spent(2), 1);
        return b;
    }

    private static Bench full() {
        Bench b = failed();
        fill(b);
        return b;
    }

    private static void refusedOn(List<Supplier<Bench>> states, String what, ToLongFunction<Bench> call, int want,
            int rule) {
        for (int k = 0; k < states.size(); k++) {
            Bench b = states.get(k).get();
            C.refused(b, what + ", state " + k, () -> call.applyAsLong(b), want, rule);
        }
    }

    private static void refused(String what, ToLongFunction<Bench> call, int want, int rule) {
        refusedOn(List.of(RefusalsTest::idle, RefusalsTest::failed, RefusalsTest::came), what, call, want, rule);
    }

    private static void whenFull(String what, ToLongFunction<Bench> call, int want) {
        refusedOn(List.of(RefusalsTest::full), what + ", full", call, want, 0);
    }

    /** BAD, also if a new HANDLE would be one too many. */
    private static void bad(String what, ToLongFunction<Bench> call) {
        refused(what, call, BAD, 0);
        whenFull(what, call, BAD);
    }

    /** A RULE that does not hold, but FULL if a new HANDLE would be one too many. */
    private static void ruled(String what, int rule, ToLongFunction<Bench> call) {
        refused(what, call, TYPE, rule);
        whenFull(what, call, FULL);
    }

    /** Refused by nothing but that a new HANDLE would be one too many. */
    private static void good(String what, ToLongFunction<Bench> call) {
        Bench b = failed();
        C.done(b, what, () -> call.applyAsLong(b), FREE);
        C.due(what + ", one more", b.told(0), FREE + 1);
        whenFull(what, call, FULL);
    }

    private interface OfHandle {
        long of(Bench b, int h);
    }

    /** UNKNOWN, whatever else is wrong: a call that is otherwise as bad as it can be. */
    private static void unknown(String what, OfHandle call) {
        for (int h : NONE_SUCH) {
            refused(what + " " + h, b -> call.of(b, h), UNKNOWN, 0);
        }
        for (int h : NONE_WHEN_FULL) {
            whenFull(what + " " + h, b -> call.of(b, h), UNKNOWN);
        }
    }

    private static void boards() {
        C.part("board: k is 0 .. 7, n is 0 .. 64");
        for (int k : new int[] {-1, 8, Integer.MIN_VALUE, Integer.MAX_VALUE}) {
            bad("row " + k, b -> b.board(k, 3));
        }
        for (int n : new int[] {-1, 65, Integer.MIN_VALUE, Integer.MAX_VALUE}) {
            bad("length " + n, b -> b.board(0, n));
        }
        bad("both", b -> b.board(8, 65));
        C.part("put: no such row, no such item");
        for (int k : new int[] {-1, 8, Integer.MIN_VALUE, Integer.MAX_VALUE}) {
            bad("row " + k, b -> b.put(k, 0, 1));
        }
        for (int i : new int[] {-1, 3, 64, Integer.MIN_VALUE, Integer.MAX_VALUE}) {
            bad("item " + i, b -> b.put(0, i, 1));
        }
        bad("an item of a row of one", b -> b.put(7, 1, 1));
        bad("an item of an empty row", b -> b.put(3, 0, 1));
    }

    private static void makers() {
        C.part("leaf: BAD, FULL");
        for (int f : new int[] {-1, 54, Integer.MIN_VALUE, Integer.MAX_VALUE}) {
            bad("function " + f, b -> b.leaf(f));
        }
        good("function 0", b -> b.leaf(0));
        good("function 53", b -> b.leaf(53));
        C.part("constant: BAD, FULL");
        for (int kind : new int[] {-1, 6, 7, Integer.MIN_VALUE, Integer.MAX_VALUE}) {
            bad("kind " + kind, b -> b.constant(kind, 0));
        }
        long[][] none = {{INT, 1L << 31}, {REAL, -1}, {TRUTH, 2}, {WORD, 27}, {ROW, 8}};
        for (long[] v : none) {
            bad("no value of kind " + v[0], b -> b.constant((int) v[0], v[1]));
        }
        for (int kind = INT; kind <= ROW; kind++) {
            int k = kind;
            good("kind " + k, b -> b.constant(k, 1));
        }
    }

    private static void binds() {
        C.part("bind: UNKNOWN, BAD, FULL");
        unknown("bind", (b, h) -> b.bind(h, 9, 1L << 40));
        for (int i : new int[] {-1, 2, 6, Integer.MIN_VALUE, Integer.MAX_VALUE}) {
            bad("at " + i, b -> b.bind(BY, i, 0));
        }
        bad("of none", b -> b.bind(COUNT, 0, 0));
        bad("no INT", b -> b.bind(BY, 0, 1L << 31));
        bad("no INT at the second", b -> b.bind(BY, 1, -(1L << 31) - 1));
        bad("no ROW", b -> b.bind(CHANGE, 0, 8));
        bad("no WORD", b -> b.bind(LETTERS, 0, 27));
        bad("no TRUTH", b -> b.bind(CHOOSE, 0, 2));
        good("bind", b -> b.bind(BY, 1, 0));
    }

    private static void drops() {
        C.part("drop: UNKNOWN, BAD, FULL, RULE 1");
        unknown("drop", (b, h) -> b.drop(h, 9, 6));
        for (int i : new int[] {-1, 3, 7, Integer.MIN_VALUE, Integer.MAX_VALUE}) {
            bad("at " + i, b -> b.drop(BY, i, INT));
        }
        for (int kind : new int[] {-1, 6, 7, Integer.MIN_VALUE, Integer.MAX_VALUE}) {
            bad("kind " + kind, b -> b.drop(BY, 0, kind));
        }
        bad("at 7 of six", b -> b.drop(SIX, 7, INT));
        bad("nothing, of six", b -> b.drop(SIX, 0, NOTHING));
        ruled("of six", 1, b -> b.drop(SIX, 0, INT));
        ruled("behind six", 1, b -> b.drop(SIX, 6, ROW));
        good("at 0", b -> b.drop(BY, 0, INT));
        good("at the end", b -> b.drop(BY, 2, ROW));
        good("of none", b -> b.drop(COUNT, 0, ROW));
    }

    private static void permutes() {
        C.part("permute: UNKNOWN, BAD, FULL, RULES 1 to 3");
        unknown("permute", (b, h) -> b.permute(h, 7, -1));
        for (int n : new int[] {-1, 7, 8, Integer.MIN_VALUE, Integer.MAX_VALUE}) {
            bad("to " + n, b -> b.permute(BY, n, order(7, 7)));
        }
        ruled("the first one not below", 1, b -> b.permute(BY, 2, order(2, 0)));
        ruled("the last one not below", 1, b -> b.permute(CHANGE, 3, order(0, 1, 3)));
        ruled("to none", 1, b -> b.permute(BY, 0, 0));
        ruled("7 of six", 1, b -> b.permute(SIX, 6, order(0, 1, 2, 3, 4, 7)));
        ruled("6 of six", 1, b -> b.permute(SIX, 6, order(0, 1, 2, 3, 4, 6)));
        ruled("two kinds take the same", 2, b -> b.permute(CHANGE, 2, order(0, 1, 0)));
        ruled("two kinds take the same at last", 2, b -> b.permute(SIX, 5, order(0, 1, 2, 3, 4, 1)));
        ruled("the first one is not taken", 3, b -> b.permute(BY, 3, order(1, 2)));
        ruled("the last one is not taken", 3, b -> b.permute(BY, 3, order(1, 0)));
        ruled("one of none", 3, b -> b.permute(COUNT, 1, 0));
        ruled("1 and 2", 1, b -> b.permute(CHANGE, 2, order(0, 0, 2)));
        ruled("1 and 3", 1, b -> b.permute(BY, 2, order(1, 2)));
        ruled("2 and 3", 2, b -> b.permute(CHANGE, 3, order(0, 0, 1)));
        ruled("1, 2 and 3", 1, b -> b.permute(CHANGE, 2, order(0, 0, 7)));
        good("to fewer", b -> b.permute(BY, 1, order(0, 0)));
        good("what does not matter", b -> b.permute(BY, 2, order(1, 0, 7, 7, 7, 7) | -1 << 18));
    }

    private static void filters() {
        C.part("filter: UNKNOWN, BAD, FULL, RULES 1, 2");
        unknown("filter", (b, h) -> b.filter(h, 9, BELOW));
        unknown("filter by", (b, f) -> b.filter(BY, 9, f));
        for (int i : new int[] {-1, 2, 6, Integer.MIN_VALUE, Integer.MAX_VALUE}) {
            bad("at " + i, b -> b.filter(BY, i, BELOW));
        }
        bad("of none", b -> b.filter(COUNT, 0, BELOW));
        ruled("by two", 1, b -> b.filter(BY, 0, LESS));
        ruled("by none", 1, b -> b.filter(BY, 0, THREE));
        ruled("another kind", 2, b -> b.filter(BY, 0, SUM));
        ruled("another kind at the last", 2, b -> b.filter(CHANGE, 2, LETTERS));
        ruled("nothing", 2, b -> b.filter(BY, 0, NOTE));
        ruled("both", 1, b -> b.filter(BY, 1, BELOW));
        good("filter", b -> b.filter(BY, 1, LETTERS));
    }

    private static void afters() {
        C.part("after: UNKNOWN, FULL, RULES 1, 2");
        unknown("after", (b, h) -> b.after(h, CHANGE));
        unknown("after by", (b, f) -> b.after(BY, f));
        ruled("by two", 1, b -> b.after(BY, LESS));
        ruled("by none", 1, b -> b.after(BY, COUNT));
        ruled("nothing, by one", 1, b -> b.after(NOTE, LETTERS));
        ruled("another kind", 2, b -> b.after(BY, LETTERS));
        ruled("both", 1, b -> b.after(BY, CHANGE));
        good("after", b -> b.after(SUM, NOTE));
        good("after nothing", b -> b.after(NOTE, COUNT));
        good("nothing after nothing", b -> b.after(NOTE, PLAIN));
    }

    private static void folds() {
        C.part("fold: UNKNOWN, FULL, RULES 1, 2");
        unknown("fold", (b, h) -> b.fold(h, CHANGE));
        unknown("fold by", (b, f) -> b.fold(BY, f));
        ruled("no parameter", 1, b -> b.fold(COUNT, THREE));
        ruled("another kind", 1, b -> b.fold(BY, COUNT));
        ruled("not those left", 2, b -> b.fold(BY, LETTERS));
        ruled("more than those left", 2, b -> b.fold(BY, LESS));
        ruled("nothing, not the first ones", 2, b -> b.fold(BY, NOTE));
        ruled("nothing, of none", 2, b -> b.fold(COUNT, NOTE));
        ruled("both", 1, b -> b.fold(LETTERS, SUM));
        good("fold", b -> b.fold(BY, THREE));
        good("fold of nothing", b -> b.fold(COUNT, PLAIN));
    }

    private static void guards() {
        C.part("guard: UNKNOWN, FULL, RULES 1 to 3");
        unknown("guard, the test", (b, h) -> b.guard(h, BY, SUM));
        unknown("guard, yes", (b, h) -> b.guard(SUM, h, BY));
        unknown("guard, no", (b, h) -> b.guard(SUM, BY, h));
        ruled("another result", 1, b -> b.guard(BELOW, BY, BELOW));
        ruled("another number", 1, b -> b.guard(BELOW, BY, THREE));
        ruled("fewer of no", 1, b -> b.guard(BELOW, SIX, SELECT));
        ruled("another kind", 1, b -> b.guard(BELOW, SUM, CHOOSE));
        ruled("no truth", 2, b -> b.guard(BY, BY, LESS));
        ruled("nothing", 2, b -> b.guard(PLAIN, BY, LESS));
        ruled("not the first ones", 3, b -> b.guard(BELOW, CHANGE, CHANGE));
        ruled("more than there are", 3, b -> b.guard(BELOW, THREE, THREE));
        ruled("1 and 2", 1, b -> b.guard(BY, BY, BELOW));
        ruled("1 and 3", 1, b -> b.guard(BELOW, SUM, LETTERS));
        ruled("2 and 3", 2, b -> b.guard(LETTERS, BY, LESS));
        ruled("1, 2 and 3", 1, b -> b.guard(LETTERS, BY, BELOW));
        good("guard", b -> b.guard(BELOW, BY, SITE));
    }

    private static void spreads() {
        C.part("spread: UNKNOWN, BAD, FULL, RULES 1, 2");
        unknown("spread", (b, h) -> b.spread(h, 7));
        for (int n : new int[] {-1, 7, Integer.MIN_VALUE, Integer.MAX_VALUE}) {
            bad("of " + n, b -> b.spread(BY, n));
        }
        ruled("fewer", 1, b -> b.spread(NOTE, 2));
        ruled("fewer than six", 1, b -> b.spread(CHOOSE, 6));
        ruled("of none", 1, b -> b.spread(COUNT, 1));
        ruled("no long at last", 1, b -> b.spread(BY, 1));
        ruled("no long at first", 1, b -> b.spread(CHOOSE, 3));
        ruled("seven", 2, b -> b.spread(SIX, 0));
        good("of none", b -> b.spread(COUNT, 0));
        good("of all", b -> b.spread(NOTE, 1));
        good("of two", b -> b.spread(CHOOSE, 2));
    }

    private static void collects() {
        C.part("collect: UNKNOWN, BAD, FULL, RULES 1, 2");
        unknown("collect", (b, h) -> b.collect(h, 7));
        for (int n : new int[] {-1, 7, Integer.MIN_VALUE, Integer.MAX_VALUE}) {
            bad("of " + n, b -> b.collect(COUNT, n));
        }
        ruled("no parameter", 1, b -> b.collect(COUNT, 0));
        ruled("no row at last", 1, b -> b.collect(CHANGE, 1));
        ruled("no row at last, of six", 1, b -> b.collect(SIX, 6));
        ruled("seven", 2, b -> b.collect(SELECT, 5));
        ruled("eight", 2, b -> b.collect(SELECT, 6));
        good("of none", b -> b.collect(SUM, 0));
        good("of six", b -> b.collect(SUM, 6));
        good("to six", b -> b.collect(SELECT, 4));
    }

    private static void widens() {
        C.part("widen: UNKNOWN, BAD, FULL, RULE 1");
        unknown("widen", (b, h) -> b.widen(h, -2, 6));
        for (int i : new int[] {-2, 2, 6, Integer.MIN_VALUE, Integer.MAX_VALUE}) {
            bad("at " + i, b -> b.widen(BY, i, INT));
        }
        bad("of none", b -> b.widen(COUNT, 0, INT));
        for (int kind : new int[] {-1, 6, 7, Integer.MIN_VALUE, Integer.MAX_VALUE}) {
            bad("to " + kind, b -> b.widen(CHANGE, 2, kind));
            bad("result to " + kind, b -> b.widen(BY, -1, kind));
        }
        bad("nothing to nothing", b -> b.widen(PLAIN, -1, NOTHING));
        ruled("a long for an int", 1, b -> b.widen(BY, 0, LONG));
        ruled("a word for a row", 1, b -> b.widen(SUM, 0, WORD));
        ruled("a result to an int", 1, b -> b.widen(SUM, -1, INT));
        ruled("nothing to a long", 1, b -> b.widen(PLAIN, -1, LONG));
        good("a parameter", b -> b.widen(CHANGE, 2, INT));
        good("a result", b -> b.widen(BY, -1, REAL));
    }

    private static void loops() {
        C.part("loop: UNKNOWN, FULL, RULES 1 to 3");
        unknown("loop, the count", (b, h) -> b.loop(h, SUM));
        unknown("loop, the body", (b, h) -> b.loop(SUM, h));
        ruled("no int", 1, b -> b.loop(COUNT, LESS));
        ruled("nothing", 1, b -> b.loop(PLAIN, LESS));
        ruled("of none", 2, b -> b.loop(THREE, COUNT));
        ruled("of one", 2, b -> b.loop(LETTERS, LETTERS));
        ruled("another result", 2, b -> b.loop(THREE, BELOW));
        ruled("no int at second", 2, b -> b.loop(THREE, CHOOSE));
        ruled("not those behind", 3, b -> b.loop(LETTERS, CHANGE));
        ruled("more than those behind", 3, b -> b.loop(BY, LESS));
        ruled("1 and 2", 1, b -> b.loop(COUNT, COUNT));
        ruled("1 and 3", 1, b -> b.loop(SUM, LESS));
        ruled("2 and 3", 2, b -> b.loop(LETTERS, BELOW));
        ruled("1, 2 and 3", 1, b -> b.loop(SUM, BELOW));
        good("loop", b -> b.loop(THREE, CHANGE));
    }

    private static void catches() {
        C.part("caught: UNKNOWN, BAD, FULL, RULES 1, 2");
        unknown("caught", (b, h) -> b.caught(h, 4, SUM));
        unknown("caught by", (b, f) -> b.caught(BY, 4, f));
        for (int kind : new int[] {-1, 0, 4, 5, 7, 8, Integer.MIN_VALUE, Integer.MAX_VALUE}) {
            bad("kind " + kind, b -> b.caught(BY, kind, SUM));
        }
        ruled("another result", 1, b -> b.caught(BY, 1, BELOW));
        ruled("not the first ones", 2, b -> b.caught(BY, 2, LETTERS));
        ruled("more than there are", 2, b -> b.caught(THREE, 3, BY));
        ruled("both", 1, b -> b.caught(BY, 6, SUM));
        good("caught", b -> b.caught(BY, 6, THREE));
        good("caught of nothing", b -> b.caught(NOTE, 1, NOTE));
    }

    private static void ensures() {
        C.part("ensure: UNKNOWN, FULL, RULES 1, 2");
        unknown("ensure", (b, h) -> b.ensure(h, SUM));
        unknown("ensure by", (b, f) -> b.ensure(BY, f));
        ruled("a result", 1, b -> b.ensure(BY, LESS));
        ruled("not the first ones", 2, b -> b.ensure(BY, NOTE));
        ruled("more than there are", 2, b -> b.ensure(COUNT, NOTE));
        ruled("both", 1, b -> b.ensure(BY, SUM));
        good("ensure", b -> b.ensure(NOTE, NOTE));
        good("ensure by none", b -> b.ensure(BY, PLAIN));
    }

    private static void sites() {
        C.part("site: UNKNOWN, FULL");
        unknown("site", Bench::site);
        good("site", b -> b.site(SITE));
        C.part("retarget: UNKNOWN, BAD, RULE 1, NO");
        unknown("retarget", (b, s) -> b.retarget(s, SUM));
        unknown("retarget to", (b, h) -> b.retarget(SITE, h));
        unknown("retarget of no site to", (b, h) -> b.retarget(BY, h));
        bad("no site", b -> b.retarget(BY, SUM));
        bad("no site, to itself", b -> b.retarget(OVER, OVER));
        bad("no site, to one that reaches it", b -> b.retarget(BY, OVER));
        for (int h : new int[] {BELOW, SUM, THREE, PLAIN, SIX}) {
            refused("another type, " + h, b -> b.retarget(SITE, h), TYPE, 1);
            refusedOn(List.of(RefusalsTest::full), "another type, full", b -> b.retarget(SITE, h), TYPE, 1);
        }
        refused("itself", b -> b.retarget(SITE, SITE), NO, 0);
        refused("one that reaches it", b -> b.retarget(SITE, OVER), NO, 0);
        whenFull("one that reaches it", b -> b.retarget(SITE, OVER), NO);
        Bench b = failed();
        int longs = b.widen(OVER, -1, LONG);
        C.refused(b, "another type that reaches it", () -> b.retarget(SITE, longs), TYPE, 1);
        C.done(b, "it can be changed", () -> b.retarget(SITE, LESS), 1);
    }

    private static void args() {
        C.part("arg: BAD, FULL");
        for (int kind : new int[] {-1, 6, 7, Integer.MIN_VALUE, Integer.MAX_VALUE}) {
            bad("kind " + kind, b -> b.arg(kind, 0));
        }
        bad("no row", b -> b.arg(ROW, 8));
        Bench b = new Bench();
        for (int n = 1; n <= 6; n++) {
            int count = n;
            C.done(b, "arg " + n, () -> b.arg(INT, count), n);
        }
        C.refused(b, "a seventh", () -> b.arg(INT, 7), FULL);
        C.refused(b, "a seventh of no kind", () -> b.arg(6, 7), BAD);
        C.refused(b, "a seventh of no value", () -> b.arg(TRUTH, 7), BAD);
    }

    private static void calls() {
        C.part("call: UNKNOWN, RULES 1, 2");
        unknown("call", Bench::call);
        refused("with other args", b -> b.call(SIX), TYPE, 1);
        refused("with args", b -> b.call(COUNT), TYPE, 1);
        Bench b = idle();
        C.refused(b, "fewer", () -> b.call(CHANGE), TYPE, 1);
        C.refused(b, "more", () -> b.call(SUM), TYPE, 1);
        C.refused(b, "other kinds", () -> b.call(BY), TYPE, 2);
        b.noArgs();
        C.refused(b, "with none", () -> b.call(BY), TYPE, 1);
        b.arg(INT, 1);
        b.arg(LONG, 1);
        C.refused(b, "the second of another kind", () -> b.call(BY), TYPE, 2);
        C.refused(b, "another number, and kind", () -> b.call(LETTERS), TYPE, 1);
        b.noArgs();
        b.arg(LONG, 1);
        b.arg(INT, 1);
        C.refused(b, "the first of another kind", () -> b.call(BY), TYPE, 2);
        b.noArgs();
        b.arg(ROW, 0);
        b.arg(INT, 0);
        b.arg(INT, 0);
        C.refused(b, "the third of another kind", () -> b.call(CHANGE), TYPE, 2);
    }

    private static void asked() {
        C.part("handles asked: UNKNOWN, BAD");
        unknown("type", (b, h) -> b.type(h, 9));
        unknown("arity", Bench::arity);
        unknown("about", (b, h) -> b.about(h, 9));
        unknown("reaches", (b, h) -> b.reaches(h, BY));
        unknown("reached", (b, h) -> b.reaches(BY, h));
        unknown("alike", (b, h) -> b.alike(h, BY));
        unknown("alike to", (b, h) -> b.alike(BY, h));
        unknown("quiet", Bench::quiet);
        unknown("pin", (b, h) -> b.pin(h, true));
        unknown("unpin", (b, h) -> b.pin(h, false));
        for (int i : new int[] {-2, 2, 6, Integer.MIN_VALUE, Integer.MAX_VALUE}) {
            bad("type at " + i, b -> b.type(BY, i));
        }
        bad("type at 0 of none", b -> b.type(COUNT, 0));
        for (int what : new int[] {-1, 5, Integer.MIN_VALUE, Integer.MAX_VALUE}) {
            bad("about " + what, b -> b.about(BY, what));
        }
    }

    /** Calls after which status() and rule() are 0, whatever was before. */
    private static List<Consumer<Bench>> changing() {
        List<Consumer<Bench>> all = new ArrayList<>(List.of(b -> b.board(1, 2), b -> b.put(0, 0, 1), b -> b.leaf(0),
                b -> b.constant(INT, 1), b -> b.bind(BY, 0, 1), b -> b.drop(BY, 0, 1), b -> b.permute(BY, 2, 1),
                b -> b.filter(BY, 0, LETTERS), b -> b.after(SUM, NOTE), b -> b.fold(BY, THREE)));
        all.addAll(List.of(b -> b.guard(BELOW, BY, BY), b -> b.spread(NOTE, 1), b -> b.collect(SUM, 1),
                b -> b.widen(BY, -1, LONG), b -> b.widen(BY, -1, INT), b -> b.loop(THREE, LESS),
                b -> b.caught(BY, 1, LESS), b -> b.ensure(NOTE, NOTE), b -> b.site(BY), b -> b.retarget(SITE, LESS)));
        all.addAll(List.of(b -> b.arg(INT, 1), Bench::noArgs, RefusalsTest::callFails, b -> b.type(BY, -1),
                b -> b.arity(BY), b -> b.about(BY, 1), b -> b.reaches(BY, BY), b -> b.alike(BY, LESS),
                b -> b.quiet(BY)));
        all.addAll(List.of(b -> b.pin(BY, true), Bench::sweep, Bench::digest));
        return all;
    }

    /** A call that fails is not refused. */
    private static void callFails(Bench b) {
        C.due("it fails", b.call(SITE), ZERO);
    }

    /** Calls after which status() and rule() are as before. */
    private static List<Consumer<Bench>> telling() {
        return List.of(Bench::how, Bench::result, b -> b.item(-1), Bench::failedAt, b -> b.path(-1),
                b -> b.trace(-1, -1), b -> b.spent(-1), b -> b.told(-1), Bench::rule, Bench::status);
    }

    private static Bench afterRule() {
        Bench b = idle();
        b.noArgs();
        b.arg(INT, 5);
        b.arg(INT, 0);
        b.loop(BY, LESS);
        C.due("rule 3 does not hold", b.rule(), 3);
        C.due("that is told", b.status(), TYPE);
        return b;
    }

    private static void latest() {
        C.part("rule() and status() of the latest call");
        List<Consumer<Bench>> changing = changing();
        for (int k = 0; k < changing.size(); k++) {
            Bench b = afterRule();
            changing.get(k).accept(b);
            C.due("status() after call " + k, b.status(), 0);
            C.due("rule() after call " + k, b.rule(), 0);
        }
        List<Consumer<Bench>> telling = telling();
        for (int k = 0; k < telling.size(); k++) {
            Bench b = afterRule();
            telling.get(k).accept(b);
            C.due("rule() after telling " + k, b.rule(), 3);
            C.due("status() after telling " + k, b.status(), TYPE);
        }
        ToLongFunction<Bench> unknown = b -> b.arity(-1);
        ToLongFunction<Bench> bad = b -> b.leaf(-1);
        ToLongFunction<Bench> no = b -> b.retarget(SITE, SITE);
        for (ToLongFunction<Bench> other : List.of(unknown, bad, no)) {
            Bench b = afterRule();
            long answer = other.applyAsLong(b);
            C.due("status() after another refusal", b.status(), answer);
            C.due("rule() after another refusal", b.rule(), 0);
        }
        Bench b = new Bench();
        C.due("status() of a new object", b.status(), 0);
        C.due("rule() of a new object", b.rule(), 0);
        C.due("told() refuses without a status", b.told(5), BAD);
        C.due("status()", b.status(), 0);
    }
}
