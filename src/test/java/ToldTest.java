import java.util.ArrayList;
import java.util.List;

/** The edges of what is told: of a new object, of the latest call, of HANDLES, and the digest. */
public final class ToldTest extends Sheet {
    private static final int LEAST = Integer.MIN_VALUE, MOST = Integer.MAX_VALUE;

    private ToldTest() {
    }

    public static void main(String[] args) {
        newObject();
        hows();
        results();
        items();
        paths();
        traces();
        tracesOfCalls();
        spents();
        refusedCalls();
        types();
        abouts();
        tolds();
        digestOfANewOne();
        digestOfHandles();
        digestOfValues();
        digestOfTheRest();
        digestsThatDiffer();
        C.end("ToldTest");
    }

    private static void newObject() {
        C.part("a new object");
        Bench b = new Bench();
        C.due("how", b.how(), NONE);
        C.due("result", b.result(), 0);
        C.due("failedAt", b.failedAt(), NONE);
        for (int k : new int[] {LEAST, -1, 0, 1, MOST}) {
            C.due("item " + k, b.item(k), 0);
            C.due("path " + k, b.path(k), NONE);
            C.due("spent " + k, b.spent(k), 0);
            for (int what : new int[] {LEAST, -1, 0, 1, 2, 3, 4, MOST}) {
                C.due("trace " + k + " " + what, b.trace(k, what), 0);
            }
            C.refused(b, "no handle " + k, () -> b.arity(k), UNKNOWN);
        }
        for (int what = 0; what <= 6; what++) {
            C.due("spent " + what, b.spent(what), 0);
        }
        for (int what = 0; what <= 4; what++) {
            C.due("told " + what, b.told(what), 0);
        }
        C.due("status", new Bench().status(), 0);
        C.due("rule", new Bench().rule(), 0);
        C.done(b, "no args", b::noArgs, 0);
        C.done(b, "sweep", b::sweep, 0);
        C.done(b, "the first handle", () -> b.leaf(41), 0);
        for (int k = 0; k < 8; k++) {
            comes(b, "row " + k + " has nothing", 0, 0, ROW, k);
            C.due("it has no items", b.trace(0, 3), 0);
        }
        C.due("the constants", CallBench.BAD, BAD);
        C.due("the constants", CallBench.UNKNOWN, UNKNOWN);
        C.due("the constants", CallBench.FULL, FULL);
        C.due("the constants", CallBench.TYPE, TYPE);
        C.due("the constants", CallBench.NO, NO);
        C.due("the constants", CallBench.NONE, NONE);
    }

    /** A call that fails so; its HANDLE has no PARAMETERS. */
    private static int failing(Bench b, int failure) {
        switch (failure) {
            case ZERO: return b.bind(b.bind(b.leaf(3), 0, 1), 0, 0);
            case BOUNDS: return b.bind(b.bind(b.leaf(47), 0, 0), 0, 0);
            case LENGTH: return b.bind(b.bind(b.leaf(45), 0, word("abcdefgh")), 0, 1);
            case DEPTH: return sites(b, b.leaf(53), 100);
            case ROUNDS: return b.bind(b.loop(b.constant(INT, 1001), b.leaf(0)), 0, 0);
            case OWN: return b.bind(b.leaf(8), 0, 1);
            default:
                int part = b.drop(b.bind(b.bind(b.leaf(42), 2, 0), 1, 0), 1, INT);
                return b.bind(b.loop(b.constant(INT, 201), part), 0, 0);
        }
    }

    private static void hows() {
        C.part("how the latest call ended");
        for (int failure = ZERO; failure <= ROOM; failure++) {
            Bench b = new Bench();
            int due = failure;
            int h = failing(b, failure);
            int nothing = b.leaf(53);
            C.done(b, "failure " + failure, () -> b.call(h), due);
            C.due("how", b.how(), failure);
            C.due("result", b.result(), 0);
            C.due("item", b.item(0), 0);
            C.due("failures by 1, 2, 3, 6", b.spent(4), failure <= 3 || failure == OWN ? 1 : 0);
            C.refused(b, "a refused call", () -> b.call(-1), UNKNOWN);
            C.due("how as before", b.how(), failure);
            C.done(b, "one that came", () -> b.call(nothing), 0);
            C.due("how", b.how(), 0);
            C.due("failedAt", b.failedAt(), NONE);
            C.due("no path", b.told(3), 0);
        }
        Bench b = new Bench();
        b.leaf(0);
        C.refused(b, "a refused call", () -> b.call(0), TYPE, 1);
        C.due("none was ended", b.how(), NONE);
    }

    private static void results() {
        C.part("what came: its BITS");
        long[][] values = {{INT, LEAST}, {INT, -1}, {INT, MOST}, {LONG, Long.MIN_VALUE}, {LONG, -1}, {REAL, 1L << 63},
            {REAL, NO_NUMBER}, {TRUTH, 0}, {TRUTH, 1}, {WORD, 0}, {WORD, word("zzzzzzzz")}};
        for (long[] v : values) {
            Bench b = new Bench();
            b.constant((int) v[0], v[1]);
            comes(b, "kind " + v[0], 0, v[1]);
            C.due("no item", b.item(0), 0);
            int nothing = b.leaf(53);
            comes(b, "nothing", nothing, 0);
            comes(b, "kind " + v[0] + " again", 0, v[1]);
            int own = b.bind(b.leaf(8), 0, 1);
            fails(b, "it failed", own, OWN, b.about(own, 1));
        }
        Bench b = new Bench();
        int note = b.leaf(50);
        comes(b, "of a function that gives nothing", note, 0, LONG, 99);
        comes(b, "of a site of it", b.site(note), 0, LONG, 99);
        int late = b.after(b.constant(LONG, 7), note);
        comes(b, "nothing, behind what came before", late, 0);
    }

    private static void items() {
        C.part("items of the ROW that came");
        for (int n : new int[] {0, 1, 2, 63, 64}) {
            Bench b = new Bench();
            b.board(2, n);
            for (int i = 0; i < n; i++) {
                b.put(2, i, 100L + i);
            }
            b.constant(ROW, 2);
            C.due("call", b.call(0), 0);
            C.due("how many", b.result(), n);
            for (int i = 0; i < n; i++) {
                C.due("item " + i, b.item(i), 100 + i);
            }
            for (int i : new int[] {LEAST, -1, n, n + 1, 64, 65, MOST}) {
                C.due("item " + i, b.item(i), 0);
            }
        }
        Bench b = new Bench();
        row(b, 0, 5, 6, 7);
        row(b, 1, 8);
        int long3 = b.constant(ROW, 0);
        int long1 = b.constant(ROW, 1);
        int number = b.constant(LONG, 3);
        b.call(long3);
        items(b, "three", 5, 6, 7);
        b.call(long1);
        items(b, "one", 8);
        C.due("nothing of the one before", b.item(1), 0);
        b.call(long3);
        b.call(number);
        C.due("a long is no row", b.item(0), 0);
        C.due("its bits", b.result(), 3);
        b.call(long3);
        run(b, b.bind(b.leaf(8), 0, 1));
        C.due("it failed", b.item(0), 0);
        b.call(long3);
        b.board(0, 0);
        b.pin(long1, true);
        b.sweep();
        items(b, "it stays", 5, 6, 7);
        C.refused(b, "a refused call", () -> b.call(long3), UNKNOWN);
        items(b, "it stays", 5, 6, 7);
    }

    private static void paths() {
        C.part("failedAt and the PATH");
        Bench b = new Bench();
        int own = b.leaf(8);
        fails(b, "at itself", own, OWN, own, INT, 1);
        path(b, "at itself", own);
        for (int n = 1; n <= 99; n++) {
            int top = b.site(b.told(0) - 1);
            if (n != 1 && n != 2 && n != 98 && n != 99) {
                continue;
            }
            fails(b, "over " + n, top, OWN, own, INT, 1);
            C.due("how long", b.told(3), n + 1);
            for (int k = 0; k <= n; k++) {
                C.due("path " + k + " of " + n, b.path(k), k);
            }
            for (int k : new int[] {LEAST, -1, n + 1, n + 2, MOST}) {
                C.due("path " + k + " of " + n, b.path(k), NONE);
            }
        }
        comes(b, "none any more", own, 0, INT, 0);
        path(b, "none any more");
        int top = b.site(99);
        fails(b, "too deep", top, DEPTH, own, INT, 1);
        C.due("how long", b.told(3), 101);
        C.due("path 100", b.path(100), top);
        C.due("path 101", b.path(101), NONE);
        fails(b, "shorter again", own, OWN, own, INT, 1);
        path(b, "shorter again", own);
    }

    private static void traces() {
        C.part("a FUNCTION of THE TRACE, by what is asked");
        int[] functions = {49, 15, 9, 36, 37, 38, 39, 44, 53};
        long[][] args = {{}, {LONG, -5}, {LONG, -5, LONG, 6}, {TRUTH, 1, LONG, -5, LONG, 6},
            {TRUTH, 0, WORD, word("zzzzzzzz"), WORD, 0}, {TRUTH, 1, ROW, 0, ROW, 1}, {ROW, 0},
            {ROW, 0, INT, 2, LONG, Long.MIN_VALUE}, {}};
        long[][] due = {{}, {-5}, {-5, 6}, {1, -5, 6}, {0, word("zzzzzzzz"), 0}, {1, 3, 0}, {3}, {3, 2, Long.MIN_VALUE},
            {}};
        Bench b = new Bench();
        row(b, 0, 7, 8, 9);
        for (int round = 0; round < 2; round++) {
            for (int k = 0; k < functions.length; k++) {
                int h = b.leaf(functions[k]);
                C.due("call", run(b, h, args[k]), 0);
                C.due("its handle", b.trace(0, 0), h);
                C.due("its number", b.trace(0, 1), functions[k]);
                C.due("how many args", b.trace(0, 2), due[k].length);
                for (int i = 0; i < 4; i++) {
                    C.due("arg " + i + " of " + functions[k], b.trace(0, 3 + i), i < due[k].length ? due[k][i] : 0);
                }
                for (int what : new int[] {LEAST, LEAST + 1, LEAST + 2, LEAST + 3, -3, -2, -1, 7, 8, MOST}) {
                    C.due("what " + what, b.trace(0, what), 0);
                }
                for (int n : new int[] {LEAST, -1, 1, 2, 199, 200, MOST}) {
                    C.due("number " + n, b.trace(n, 1), 0);
                }
                C.due("one is kept", b.told(4), 1);
                C.due("one is begun", b.spent(1), 1);
            }
        }
    }

    private static void tracesOfCalls() {
        C.part("THE TRACE of the latest call");
        Bench b = new Bench();
        int minus = b.leaf(7);
        int plus = b.leaf(0);
        int three = b.constant(INT, 3);
        int both = b.filter(plus, 0, minus);
        comes(b, "two", both, 4, INT, 1, INT, 5);
        traced(b, "two", minus, plus);
        C.due("the args of the first", b.trace(0, 3), 1);
        C.due("the args of the second", b.trace(1, 3), -1);
        C.due("the args of the second", b.trace(1, 4), 5);
        comes(b, "one", minus, -1, INT, 1);
        traced(b, "one", minus);
        C.due("the second is gone", b.trace(1, 0) + b.trace(1, 1) + b.trace(1, 3), 0);
        comes(b, "none", three, 3);
        traced(b, "none");
        C.due("the first is gone", b.trace(0, 1) + b.trace(0, 2) + b.trace(0, 3), 0);
        int own = b.leaf(8);
        fails(b, "one that fails", own, OWN, own, INT, 1);
        traced(b, "one that fails", own);
        C.refused(b, "a refused call", () -> b.call(plus), TYPE, 1);
        traced(b, "as before", own);
        int empty = b.spread(b.leaf(10), 2);
        fails(b, "a spread is no function", empty, BOUNDS, empty, ROW, 0);
        traced(b, "a spread is no function");
        fails(b, "one that fails", own, OWN, own, INT, 1);
        b.sweep();
        traced(b, "it stays over a sweep", own);
        row(b, 0, 1, 2);
        int sum = b.leaf(41);
        run(b, sum, ROW, 0);
        b.board(0, 0);
        C.due("how many items it had", b.trace(0, 3), 2);
    }

    private static void spents() {
        C.part("what was spent");
        Bench b = new Bench();
        row(b, 0, 1, 2, 3);
        int change = b.leaf(44);
        int own = b.leaf(8);
        int count = b.leaf(49);
        int note = b.leaf(50);
        comes(b, "a row", change, 3, ROW, 0, INT, 0, LONG, 9);
        spent(b, "a row", 1, 1, 1, 3, 0, 0, 0);
        fails(b, "a failure", own, OWN, own, INT, 1);
        spent(b, "a failure", 1, 1, 0, 0, 1, 0, 0);
        comes(b, "a count", count, 1);
        spent(b, "a count", 1, 1, 0, 0, 0, 1, 0);
        comes(b, "a note", note, 0, LONG, -5);
        spent(b, "a note", 1, 1, 0, 0, 0, 1, -5);
        comes(b, "a constant", b.constant(INT, 5), 5);
        spent(b, "a constant", 1, 0, 0, 0, 0, 1, -5);
        C.refused(b, "a refused call", () -> b.call(own), TYPE, 1);
        spent(b, "a refused call", 1, 0, 0, 0, 0, 1, -5);
        for (int what : new int[] {LEAST, -1, 7, 8, MOST}) {
            C.due("spent " + what, b.spent(what), 0);
        }
    }

    private static void refusedCalls() {
        C.part("what is told is of the latest call that was not refused");
        Bench b = new Bench();
        row(b, 0, 4, 5);
        int rows = b.constant(ROW, 0);
        int by = b.leaf(3);
        int site = b.site(by);
        b.call(rows);
        b.arg(INT, 1);
        C.refused(b, "fewer", () -> b.call(site), TYPE, 1);
        b.arg(LONG, 1);
        C.refused(b, "another kind", () -> b.call(site), TYPE, 2);
        C.refused(b, "none such", () -> b.call(9), UNKNOWN);
        C.due("the args stay", b.told(2), 2);
        C.due("how", b.how(), 0);
        items(b, "the row", 4, 5);
        b.noArgs();
        fails(b, "one that fails", site, ZERO, by, INT, 1, INT, 0);
        C.refused(b, "fewer", () -> b.call(site), TYPE, 1);
        C.due("how", b.how(), ZERO);
        path(b, "the path", by, site);
        C.due("no row any more", b.item(0), 0);
    }

    private static void types() {
        C.part("type and arity");
        Bench b = new Bench();
        int six = widened(b, b.leaf(44), 6, WORD);
        int nothing = b.leaf(53);
        C.done(b, "six", () -> b.arity(six), 6);
        C.done(b, "none", () -> b.arity(nothing), 0);
        int[] kinds = {ROW, INT, LONG, WORD, WORD, WORD};
        for (int i = 0; i < 6; i++) {
            int at = i;
            C.done(b, "parameter " + i, () -> b.type(six, at), kinds[i]);
        }
        C.done(b, "the result", () -> b.type(six, -1), ROW);
        C.done(b, "nothing", () -> b.type(nothing, -1), NOTHING);
        for (int i : new int[] {LEAST, -2, 6, 7, MOST}) {
            C.refused(b, "type at " + i, () -> b.type(six, i), BAD);
        }
        C.refused(b, "type at 0 of none", () -> b.type(nothing, 0), BAD);
    }

    private static void abouts() {
        C.part("about: sort, TARGET, OTHER, THIRD, number");
        Bench b = new Bench();
        int less = b.leaf(1);
        int minus = b.leaf(7);
        int three = b.constant(INT, 3);
        int below = b.leaf(24);
        int nothing = b.leaf(53);
        int longs = b.leaf(10);
        int sum = b.leaf(41);
        about(b, less, 0, NONE, NONE, NONE, 1);
        about(b, nothing, 0, NONE, NONE, NONE, 53);
        about(b, three, 1, NONE, NONE, NONE, 0);
        about(b, b.bind(less, 1, 5), 2, less, NONE, NONE, 1);
        about(b, b.drop(less, 2, INT), 3, less, NONE, NONE, 2);
        about(b, b.permute(less, 2, order(1, 0)), 4, less, NONE, NONE, order(1, 0));
        about(b, b.filter(less, 1, minus), 5, less, minus, NONE, 1);
        about(b, b.after(less, minus), 6, less, minus, NONE, 0);
        about(b, b.fold(less, minus), 7, less, minus, NONE, 0);
        about(b, b.guard(below, less, b.leaf(0)), 8, less, below, b.told(0) - 2, 0);
        about(b, b.spread(longs, 2), 9, longs, NONE, NONE, 2);
        about(b, b.collect(sum, 6), 10, sum, NONE, NONE, 6);
        about(b, b.widen(less, -1, LONG), 11, less, NONE, NONE, -1);
        about(b, b.widen(longs, 1, INT), 11, longs, NONE, NONE, 1);
        about(b, b.loop(three, less), 12, less, three, NONE, 0);
        about(b, b.caught(less, OWN, minus), 13, less, minus, NONE, OWN);
        about(b, b.ensure(less, nothing), 14, less, nothing, NONE, 0);
        int site = b.site(less);
        about(b, site, 15, less, NONE, NONE, 0);
        for (int n = 1; n <= 20; n++) {
            int times = n;
            C.done(b, "retarget", () -> b.retarget(site, less), times);
        }
        about(b, site, 15, less, NONE, NONE, 20);
        C.refused(b, "to itself", () -> b.retarget(site, site), NO);
        about(b, site, 15, less, NONE, NONE, 20);
        int other = b.site(less);
        about(b, other, 15, less, NONE, NONE, 0);
    }

    private static void tolds() {
        C.part("told: how many");
        Bench b = new Bench();
        int by = b.leaf(3);
        int site = b.site(by);
        int top = b.site(site);
        b.pin(site, true);
        b.pin(by, true);
        fails(b, "it fails", top, ZERO, by, INT, 1, INT, 0);
        b.arg(INT, 1);
        long[] due = {3, 2, 1, 3, 1};
        for (int what = 0; what < due.length; what++) {
            C.due("told " + what, b.told(what), due[what]);
        }
        for (int what : new int[] {LEAST, -1, 5, 6, MOST}) {
            C.due("told " + what, b.told(what), BAD);
            C.due("it is no call for status()", b.status(), 0);
        }
        b.arity(-1);
        b.told(9);
        C.due("nor does it change it", b.status(), UNKNOWN);
    }

    private static long mixed(List<Long> numbers) {
        long h = 17;
        for (long n : numbers) {
            h = 31 * h + n;
        }
        return h;
    }

    private static List<Long> numbers(long... all) {
        List<Long> list = new ArrayList<>();
        for (long n : all) {
            list.add(n);
        }
        return list;
    }

    private static void digest(Bench b, String what, long... due) {
        C.done(b, what, b::digest, mixed(numbers(due)));
        C.done(b, what + ", again", b::digest, mixed(numbers(due)));
    }

    private static void digestOfANewOne() {
        C.part("the digest");
        digest(new Bench(), "a new object", 0, 0, 0, 0, 0, 0, 0, 0, 0, 0);
        Bench b = new Bench();
        b.board(0, 1);
        digest(b, "a row of one", 1, 0, 0, 0, 0, 0, 0, 0, 0, 0, 0);
        b.put(0, 0, Long.MIN_VALUE);
        digest(b, "its item", 1, Long.MIN_VALUE, 0, 0, 0, 0, 0, 0, 0, 0, 0);
        b.board(7, 2);
        b.put(7, 1, -1);
        digest(b, "the last row", 1, Long.MIN_VALUE, 0, 0, 0, 0, 0, 0, 2, 0, -1, 0, 0);
        b.board(0, 0);
        digest(b, "no row of one", 0, 0, 0, 0, 0, 0, 0, 2, 0, -1, 0, 0);
    }

    /** The numbers of a HANDLE as it tells them; its VALUE is given. */
    private static List<Long> handle(Bench b, int h, boolean pinned, long... value) {
        List<Long> all = numbers(h, b.about(h, 0));
        for (int i = 0; i < b.arity(h); i++) {
            all.add((long) b.type(h, i));
        }
        all.add((long) b.type(h, -1));
        for (int what = 1; what <= 4; what++) {
            all.add((long) b.about(h, what));
        }
        all.addAll(numbers(value));
        all.add(pinned ? 1L : 0L);
        return all;
    }

    private static void digestOfHandles() {
        C.part("the digest of each sort of HANDLE");
        Bench b = new Bench();
        int less = b.leaf(1);
        int minus = b.leaf(7);
        int three = b.constant(INT, 3);
        int sum = b.leaf(41);
        b.bind(less, 1, -9);
        b.drop(less, 2, WORD);
        b.permute(less, 2, order(1, 0));
        b.filter(less, 1, minus);
        b.after(less, minus);
        b.fold(less, minus);
        b.guard(b.leaf(24), less, b.leaf(0));
        b.spread(b.leaf(10), 2);
        b.collect(sum, 4);
        b.widen(less, -1, REAL);
        b.loop(three, less);
        b.caught(less, BOUNDS, minus);
        b.ensure(less, b.leaf(53));
        int site = b.site(less);
        b.retarget(site, less);
        b.pin(site, true);
        b.pin(0, true);
        List<Long> all = new ArrayList<>();
        for (int h = 0; h < b.told(0); h++) {
            int sort = b.about(h, 0);
            all.addAll(sort == 1 ? handle(b, h, false, 3) : sort == 2 ? handle(b, h, false, -9)
                    : handle(b, h, h == 0 || h == site));
        }
        all.addAll(numbers(0, 0, 0, 0, 0, 0, 0, 0, 0, 0));
        C.done(b, "one of each sort", b::digest, mixed(all));
        b.sweep();
        List<Long> left = handle(b, 0, true);
        left.addAll(handle(b, site, true));
        left.addAll(numbers(0, 0, 0, 0, 0, 0, 0, 0, 0, 0));
        C.done(b, "two of them", b::digest, mixed(left));
    }

    private static void digestOfValues() {
        C.part("the digest of VALUES");
        Bench b = new Bench();
        row(b, 0, 7, -8);
        long[][] values = {{INT, -1}, {LONG, Long.MIN_VALUE}, {REAL, NO_NUMBER}, {TRUTH, 1}, {WORD, word("abc")}};
        List<Long> all = new ArrayList<>();
        for (long[] v : values) {
            int h = b.constant((int) v[0], v[1]);
            all.addAll(handle(b, h, false, v[1]));
        }
        int full = b.constant(ROW, 0);
        all.addAll(handle(b, full, false, 2, 7, -8));
        int empty = b.constant(ROW, 1);
        all.addAll(handle(b, empty, false, 0));
        int sum = b.leaf(41);
        all.addAll(handle(b, sum, false));
        int bound = b.bind(sum, 0, 0);
        all.addAll(handle(b, bound, false, 2, 7, -8));
        int none = b.bind(sum, 0, 1);
        all.addAll(handle(b, none, false, 0));
        for (long[] v : values) {
            b.arg((int) v[0], v[1]);
            all.addAll(numbers(v));
        }
        b.arg(ROW, 0);
        all.addAll(numbers(ROW, 2, 7, -8));
        b.board(0, 1);
        all.addAll(numbers(1, 0, 0, 0, 0, 0, 0, 0, 0, 0, 0));
        C.done(b, "handles and args", b::digest, mixed(all));
    }

    private static void digestOfTheRest() {
        C.part("the digest of ARGS, THE COUNT, THE NOTE");
        Bench b = new Bench();
        b.arg(ROW, 3);
        digest(b, "an empty row", ROW, 0, 0, 0, 0, 0, 0, 0, 0, 0, 0, 0);
        b.arg(INT, -1);
        digest(b, "two args", ROW, 0, INT, -1, 0, 0, 0, 0, 0, 0, 0, 0, 0, 0);
        b.noArgs();
        digest(b, "none", 0, 0, 0, 0, 0, 0, 0, 0, 0, 0);
        b.leaf(49);
        b.leaf(50);
        b.call(0);
        b.call(0);
        run(b, 1, LONG, -5);
        b.sweep();
        digest(b, "the count and the note", 0, 0, 0, 0, 0, 0, 0, 0, 2, -5);
        C.due("status before", b.arity(0), UNKNOWN);
        C.done(b, "it is not refused", b::digest, mixed(numbers(0, 0, 0, 0, 0, 0, 0, 0, 2, -5)));
    }

    private static void digestsThatDiffer() {
        C.part("the digest after what changes nothing in it");
        Bench b = new Bench();
        b.leaf(0);
        b.leaf(7);
        long had = b.digest();
        run(b, 1, INT, 5);
        C.due("a call", b.digest(), had);
        b.call(0);
        C.due("a refused call", b.digest(), had);
        b.reaches(0, 1);
        b.alike(0, 1);
        b.quiet(0);
        C.due("what is asked", b.digest(), had);
        b.pin(1, true);
        C.due("a pin", b.digest() == had ? 0 : 1, 1);
        b.pin(1, false);
        C.due("no pin", b.digest(), had);
        b.widen(0, 0, INT);
        C.due("a widen that is so", b.digest(), had);
        int site = b.site(0);
        long with = b.digest();
        b.retarget(site, 0);
        C.due("a retarget to the same", b.digest() == with ? 0 : 1, 1);
    }
}
