/** The edges of the KINDS, of their BITS, of what WIDENS, and of each FUNCTION. */
public final class ValuesTest extends Sheet {
    private static final long MIN = Integer.MIN_VALUE, MAX = Integer.MAX_VALUE;
    private static final long LEAST = Long.MIN_VALUE, MOST = Long.MAX_VALUE;
    private static final long INFINITE = 0x7ff0000000000000L, SIGN = 1L << 63;
    /** Of each KIND the FUNCTION that chooses one of two VALUES of it; -1: there is none. */
    private static final int[] CHOICES = {35, 36, -1, -1, 37, 38};

    private ValuesTest() {
    }

    public static void main(String[] args) {
        bits();
        rowsAtThatTime();
        typesOfFunctions();
        widens();
        widened();
        ints();
        longs();
        reals();
        comparisons();
        truths();
        rows();
        words();
        state();
        C.end("ValuesTest");
    }

    /** The BITS of the KIND tell a VALUE: for constant(), bind(), arg(), and what comes. */
    private static void good(int kind, long... all) {
        for (long bits : all) {
            Bench b = new Bench();
            String what = "kind " + kind + " of bits " + Long.toHexString(bits);
            C.done(b, what + ", constant", () -> b.constant(kind, bits), 0);
            C.done(b, what + ", drop", () -> b.drop(0, 0, kind), 1);
            C.done(b, what + ", bind", () -> b.bind(1, 0, bits), 2);
            C.done(b, what + ", arg", () -> b.arg(kind, bits), 1);
            C.done(b, what + ", call with it", () -> b.call(1), 0);
            C.due(what + ", what came", b.result(), kind == ROW ? 0 : bits);
            if (CHOICES[kind] >= 0) {
                int choice = b.leaf(CHOICES[kind]);
                comes(b, what + ", handed on", choice, kind == ROW ? 0 : bits, TRUTH, 1, kind, bits, kind, bits);
                C.due(what + ", traced", b.trace(0, 4), kind == ROW ? 0 : bits);
            }
        }
    }

    private static void bad(int kind, long... all) {
        for (long bits : all) {
            Bench b = new Bench();
            b.constant(INT, 0);
            String what = "kind " + kind + " of bits " + Long.toHexString(bits);
            C.refused(b, what + ", constant", () -> b.constant(kind, bits), BAD);
            if (kind >= INT && kind <= ROW) {
                b.drop(0, 0, kind);
                C.refused(b, what + ", bind", () -> b.bind(1, 0, bits), BAD);
            }
            C.refused(b, what + ", arg", () -> b.arg(kind, bits), BAD);
        }
    }

    private static void bits() {
        C.part("BITS that tell a VALUE, and those that do not");
        good(INT, 0, 1, -1, MIN, MAX);
        bad(INT, MIN - 1, MAX + 1, 1L << 32, LEAST, MOST, 0xffffffffL);
        good(LONG, 0, -1, MIN - 1, MAX + 1, LEAST, MOST);
        good(REAL, 0, SIGN, 1, SIGN | 1, real(1), real(-1), real(Double.MAX_VALUE), INFINITE, SIGN | INFINITE,
                INFINITE - 1, (SIGN | INFINITE) - 1, NO_NUMBER);
        bad(REAL, NO_NUMBER + 1, NO_NUMBER - 1, INFINITE + 1, SIGN | NO_NUMBER, (SIGN | INFINITE) + 1, MOST, -1);
        good(TRUTH, 0, 1);
        bad(TRUTH, -1, 2, LEAST, MOST, 1L << 32, 1L << 32 | 1);
        good(WORD, 0, 1, 26, word("aa"), word("az"), word("za"), word("aaaaaaa"), word("aaaaaaaa"),
                word("zzzzzzzz"), word("abcdefgh"));
        bad(WORD, 27, 28, 31, 32, 26 << 5, 1 << 10, 1 << 10 | 1, word("a") << 5 | 27, 27 << 5 | 1, 31 << 5 | 1);
        bad(WORD, word("aaaaaaaaa"), word("zzzzzzzzz"), 1L << 40, 1L << 40 | word("aaaaaaaa"), LEAST, MOST, -1,
                LEAST | 1, LEAST | word("aaaaaaaa"), 1L << 60, word("abcdefgh") & ~31L, 27L << 35 | word("aaaaaaa"));
        good(ROW, 0, 1, 7);
        bad(ROW, -1, 8, 9, 1L << 32, LEAST, MOST);
        C.part("the KINDS are 0 to 5, as a result alone 6");
        bad(-1, 0, 1);
        bad(6, 0, 1);
        bad(7, 0);
        bad(Integer.MAX_VALUE, 0);
        bad(Integer.MIN_VALUE, 0);
    }

    private static void rowsAtThatTime() {
        C.part("a ROW is what the row has at that time");
        Bench b = new Bench();
        int sum = b.leaf(41);
        int empty = b.constant(ROW, 3);
        row(b, 3, 5, 6);
        int two = b.constant(ROW, 3);
        int bound = b.bind(sum, 0, 3);
        b.arg(ROW, 3);
        b.put(3, 0, 100);
        C.due("an arg", b.call(sum), 0);
        C.due("its sum", b.result(), 11);
        comes(b, "a bind", bound, 11);
        C.due("a constant", b.call(two), 0);
        items(b, "a constant", 5, 6);
        C.due("an empty constant", b.call(empty), 0);
        items(b, "an empty constant");
        b.arg(ROW, 3);
        b.board(3, 0);
        C.due("an arg", b.call(sum), 0);
        C.due("its sum", b.result(), 106);
        comes(b, "a bind of a row that went", bound, 11);
        b.call(two);
        row(b, 3, 9);
        items(b, "what came", 5, 6);
        comes(b, "a new arg", sum, 9, ROW, 3);
    }

    private static void typesOfFunctions() {
        C.part("54 FUNCTIONS with their KINDS");
        String types = "ii-i ii-i ii-i ii-i ii-i ii-i ii-i i-i i-i "
                + "ll-l ll-l ll-l ll-l ll-l ll-l l-l "
                + "rr-r rr-r rr-r rr-r rr-r rr-r r-r r-r "
                + "ii-t ll-t rr-t ii-t ll-t rr-t ww-t ww-t t-t tt-t tt-t "
                + "tii-i tll-l tww-w too-o "
                + "o-i oi-l o-l oii-o ol-i oil-o "
                + "ww-w wi-w wi-i w-i -l l-n -l t-i -n";
        String[] each = types.split(" ");
        C.due("how many", each.length, 54);
        for (int f = 0; f < each.length; f++) {
            Bench b = new Bench();
            int number = f;
            C.done(b, "leaf " + f, () -> b.leaf(number), 0);
            String[] sides = each[f].split("-", -1);
            C.due("arity of " + f, b.arity(0), sides[0].length());
            C.due("result of " + f, b.type(0, -1), "ilrtwon".indexOf(sides[1]));
            for (int i = 0; i < sides[0].length(); i++) {
                C.due("parameter " + i + " of " + f, b.type(0, i), "ilrtwon".indexOf(sides[0].charAt(i)));
            }
            about(b, 0, 0, NONE, NONE, NONE, f);
        }
    }

    private static void widens() {
        C.part("what WIDENS to what");
        String pairs = "00 01 02 11 12 22 33 44 55";
        for (int from = INT; from <= ROW; from++) {
            for (int to = INT; to <= ROW; to++) {
                Bench b = new Bench();
                int source = from;
                int goal = to;
                int result = b.constant(from, 0);
                int parameter = b.drop(b.leaf(53), 0, to);
                boolean so = pairs.contains("" + from + to);
                if (from == to) {
                    C.done(b, "result " + from + " is so", () -> b.widen(result, -1, goal), result);
                    C.done(b, "parameter " + from + " is so", () -> b.widen(parameter, 0, source), parameter);
                    C.due("none is made", b.told(0), 3);
                } else if (so) {
                    C.done(b, "result " + from + " to " + to, () -> b.widen(result, -1, goal), 3);
                    C.done(b, "parameter " + to + " of " + from, () -> b.widen(parameter, 0, source), 4);
                    type(b, 3, to);
                    type(b, 4, NOTHING, from);
                    about(b, 3, 11, result, NONE, NONE, -1);
                    about(b, 4, 11, parameter, NONE, NONE, 0);
                } else {
                    C.refused(b, "result " + from + " to " + to, () -> b.widen(result, -1, goal), TYPE, 1);
                    C.refused(b, "parameter " + to + " of " + from, () -> b.widen(parameter, 0, source), TYPE, 1);
                }
            }
            Bench b = new Bench();
            int goal = from;
            b.leaf(53);
            C.refused(b, "nothing to " + from, () -> b.widen(0, -1, goal), TYPE, 1);
        }
        Bench b = new Bench();
        int change = b.leaf(44);
        int wide = b.widen(change, 2, INT);
        type(b, wide, ROW, ROW, INT, INT);
        about(b, wide, 11, change, NONE, NONE, 2);
        C.done(b, "so already when full", () -> fullWiden(b, change), change);
    }

    private static long fullWiden(Bench b, int h) {
        fill(b);
        return b.widen(h, 1, INT);
    }

    /** INT, LONG as REALS: of a result, of a PARAMETER. */
    private static void widened(int kind, long v, double due) {
        Bench b = new Bench();
        int result = b.widen(b.constant(kind, v), -1, REAL);
        comes(b, v + " as a result", result, real(due));
        int parameter = b.widen(b.leaf(23), 0, kind);
        comes(b, v + " as a parameter", parameter, real(-due), kind, v);
        C.due(v + " as it is handed on", b.trace(0, 3), real(due));
    }

    private static void widened() {
        C.part("to REAL the nearest, of two the even one");
        for (int v : new int[] {0, 1, -1, Integer.MIN_VALUE, Integer.MAX_VALUE, 1 << 24 | 1, -16777217}) {
            widened(INT, v, v);
            widened(LONG, v, v);
        }
        long two53 = 1L << 53;
        widened(LONG, two53 - 1, 9007199254740991.0);
        widened(LONG, two53, 9007199254740992.0);
        widened(LONG, two53 + 1, 9007199254740992.0);
        widened(LONG, two53 + 2, 9007199254740994.0);
        widened(LONG, two53 + 3, 9007199254740996.0);
        widened(LONG, -two53 - 1, -9007199254740992.0);
        widened(LONG, -two53 - 3, -9007199254740996.0);
        long two62 = 1L << 62;
        widened(LONG, two62 + 511, 4611686018427387904.0);
        widened(LONG, two62 + 512, 4611686018427387904.0);
        widened(LONG, two62 + 513, 4611686018427388928.0);
        widened(LONG, two62 + 1535, 4611686018427388928.0);
        widened(LONG, two62 + 1536, 4611686018427389952.0);
        widened(LONG, two62 - 256, 4611686018427387904.0);
        widened(LONG, two62 - 257, 4611686018427387392.0);
        widened(LONG, MOST, 9223372036854775808.0);
        widened(LONG, MOST - 511, 9223372036854775808.0);
        widened(LONG, MOST - 512, 9223372036854774784.0);
        widened(LONG, LEAST, -9223372036854775808.0);
        widened(LONG, LEAST + 1, -9223372036854775808.0);
        C.part("INT to LONG");
        for (int v : new int[] {0, -1, Integer.MIN_VALUE, Integer.MAX_VALUE}) {
            Bench b = new Bench();
            comes(b, v + " as a result", b.widen(b.constant(INT, v), -1, LONG), v);
            comes(b, v + " as a parameter", b.widen(b.leaf(15), 0, INT), -(long) v, INT, v);
        }
    }

    /** A call with six ARGS, so that a FUNCTION that looks at more than its own would be wrong. */
    private static void callBefore(Bench b) {
        int six = widened(b, b.constant(INT, 0), 6, LONG);
        comes(b, "a call before", six, 0, LONG, 1, LONG, 1, LONG, 1, LONG, 1, LONG, 1, LONG, 1);
    }

    /** A FUNCTION of these VALUES, all of one KIND, comes to the due one. */
    private static void comesOf(int f, long due, int kind, long... values) {
        Bench b = new Bench();
        b.leaf(f);
        callBefore(b);
        comes(b, what(f, values), 0, due, each(kind, values));
        spent(b, what(f, values), 1, 1, 0, 0, 0);
    }

    private static void failsOf(int f, int failure, int kind, long... values) {
        Bench b = new Bench();
        b.leaf(53);
        b.leaf(f);
        callBefore(b);
        fails(b, what(f, values), 1, failure, 1, each(kind, values));
        path(b, what(f, values), 1);
        spent(b, what(f, values), 1, 1, 0, 0, 1);
        C.due(what(f, values) + ", traced", b.trace(0, 1), f);
    }

    private static String what(int f, long... values) {
        StringBuilder all = new StringBuilder("function " + f + " of");
        for (long v : values) {
            all.append(' ').append(v);
        }
        return all.toString();
    }

    private static long[] each(int kind, long... values) {
        long[] args = new long[2 * values.length];
        for (int i = 0; i < values.length; i++) {
            args[2 * i] = kind;
            args[2 * i + 1] = values[i];
        }
        return args;
    }

    private static void ints() {
        C.part("INTS wrap");
        comesOf(0, MIN, INT, MAX, 1);
        comesOf(0, MAX, INT, MIN, -1);
        comesOf(0, 0, INT, MIN, MIN);
        comesOf(0, -1, INT, MIN, MAX);
        comesOf(1, MAX, INT, MIN, 1);
        comesOf(1, MIN, INT, MAX, -1);
        comesOf(1, MIN, INT, 0, MIN);
        comesOf(1, -3, INT, 4, 7);
        comesOf(2, 0, INT, 65536, 65536);
        comesOf(2, MIN, INT, 65536, 32768);
        comesOf(2, 1, INT, MAX, MAX);
        comesOf(2, MIN, INT, MIN, -1);
        comesOf(2, -21, INT, 7, -3);
        C.part("INT by INT, to 0, and the rest");
        long[][] by = {{7, 2, 3, 1}, {-7, 2, -3, -1}, {7, -2, -3, 1}, {-7, -2, 3, -1}, {MIN, -1, MIN, 0},
            {MIN, 1, MIN, 0}, {MAX, -1, -MAX, 0}, {1, MIN, 0, 1}, {MIN, MAX, -1, -1}, {0, 5, 0, 0}, {MIN, MIN, 1, 0},
            {MAX, MIN, 0, MAX}};
        for (long[] v : by) {
            comesOf(3, v[2], INT, v[0], v[1]);
            comesOf(4, v[3], INT, v[0], v[1]);
            comesOf(12, v[0] / v[1], LONG, v[0], v[1]);
            comesOf(13, v[3], LONG, v[0], v[1]);
        }
        for (int f : new int[] {3, 4}) {
            failsOf(f, ZERO, INT, 7, 0);
            failsOf(f, ZERO, INT, 0, 0);
            failsOf(f, ZERO, INT, MIN, 0);
        }
        C.part("INTS by their bits, and the others");
        comesOf(5, 8, INT, 12, 10);
        comesOf(5, MIN, INT, MIN, -1);
        comesOf(5, 0, INT, MIN, MAX);
        comesOf(6, 6, INT, 12, 10);
        comesOf(6, -1, INT, MIN, MAX);
        comesOf(6, 0, INT, -1, -1);
        comesOf(7, -1, INT, 1);
        comesOf(7, 0, INT, 0);
        comesOf(7, MIN, INT, MIN);
        comesOf(7, MIN + 1, INT, MAX);
        comesOf(8, 0, INT, 0);
        for (long v : new long[] {1, -1, MIN, MAX}) {
            failsOf(8, OWN, INT, v);
        }
    }

    private static void longs() {
        C.part("LONGS wrap");
        comesOf(9, LEAST, LONG, MOST, 1);
        comesOf(9, 0, LONG, LEAST, LEAST);
        comesOf(9, MAX + 1, LONG, MAX, 1);
        comesOf(10, MOST, LONG, LEAST, 1);
        comesOf(10, MIN - 1, LONG, MIN, 1);
        comesOf(10, LEAST, LONG, 0, LEAST);
        comesOf(11, 0, LONG, 1L << 32, 1L << 32);
        comesOf(11, 1L << 32, LONG, 1L << 16, 1L << 16);
        comesOf(11, LEAST, LONG, LEAST, -1);
        comesOf(11, 1, LONG, MOST, MOST);
        C.part("LONG by LONG, to 0, and the rest");
        comesOf(12, LEAST, LONG, LEAST, -1);
        comesOf(13, 0, LONG, LEAST, -1);
        comesOf(12, -(1L << 31), LONG, LEAST, 1L << 32);
        comesOf(13, -7, LONG, LEAST + 1, -8);
        comesOf(12, -1, LONG, LEAST, MOST);
        comesOf(13, -1, LONG, LEAST, MOST);
        for (int f : new int[] {12, 13}) {
            failsOf(f, ZERO, LONG, 7, 0);
            failsOf(f, ZERO, LONG, 0, 0);
            failsOf(f, ZERO, LONG, LEAST, 0);
            comesOf(f, 0, LONG, 0, 1L << 32);
        }
        C.part("LONGS by their bits, and minus");
        comesOf(14, -1, LONG, LEAST, MOST);
        comesOf(14, 1L << 40 | 1, LONG, 1L << 40, 1);
        comesOf(15, LEAST, LONG, LEAST);
        comesOf(15, -MOST, LONG, MOST);
        comesOf(15, 0, LONG, 0);
    }

    private static void reals() {
        C.part("REALS with what is no number, without end, and with 0");
        double[] edges = {0, -0.0, 1, -1, 0.5, -0.5, 1.5, Double.MIN_VALUE, -Double.MIN_VALUE, Double.MAX_VALUE,
            -Double.MAX_VALUE, Double.MIN_NORMAL, 4503599627370495.5, -4503599627370496.5, 9007199254740992.0,
            Double.POSITIVE_INFINITY, Double.NEGATIVE_INFINITY, Double.NaN};
        for (double x : edges) {
            comesOf(22, real(Math.floor(x)), REAL, real(x));
            comesOf(23, real(-x), REAL, real(x));
            for (double y : edges) {
                comesOf(16, real(x + y), REAL, real(x), real(y));
                comesOf(17, real(x - y), REAL, real(x), real(y));
                comesOf(18, real(x * y), REAL, real(x), real(y));
                comesOf(19, real(x / y), REAL, real(x), real(y));
            }
        }
        long none = NO_NUMBER;
        long zero = 0;
        C.part("REALS by hand");
        comesOf(19, INFINITE, REAL, real(1), zero);
        comesOf(19, SIGN | INFINITE, REAL, real(1), SIGN);
        comesOf(19, none, REAL, zero, SIGN);
        comesOf(17, none, REAL, INFINITE, INFINITE);
        comesOf(16, INFINITE, REAL, real(Double.MAX_VALUE), real(Double.MAX_VALUE));
        comesOf(19, 0, REAL, 1, real(2));
        comesOf(18, 1, REAL, 1, real(0.75));
        comesOf(18, 2, REAL, 1, real(1.5));
        // Half way between two numbers, but for one digit far behind.
        comesOf(18, real(1 + 0x1p-26 + 0x1p-27 + 0x1p-51 + 0x1p-52), REAL, real(1 + 0x1p-26),
                real(1 + 0x1p-27 + 0x1p-51));
        comesOf(16, real(0.30000000000000004), REAL, real(0.1), real(0.2));
        comesOf(22, SIGN, REAL, SIGN);
        comesOf(22, real(-1), REAL, SIGN | 1);
        comesOf(22, 0, REAL, 1);
        comesOf(23, none, REAL, none);
        C.part("the lesser and the greater REAL");
        long[][] ordered = {{SIGN | INFINITE, real(-Double.MAX_VALUE)}, {real(-1), SIGN | 1}, {SIGN | 1, SIGN},
            {SIGN, 0}, {0, 1}, {1, real(1)}, {real(Double.MAX_VALUE), INFINITE}, {real(-2), real(-1)}};
        for (long[] v : ordered) {
            comesOf(20, v[0], REAL, v[0], v[1]);
            comesOf(20, v[0], REAL, v[1], v[0]);
            comesOf(21, v[1], REAL, v[0], v[1]);
            comesOf(21, v[1], REAL, v[1], v[0]);
            comesOf(20, v[0], REAL, v[0], v[0]);
            comesOf(21, v[0], REAL, v[0], v[0]);
            for (int f : new int[] {20, 21}) {
                comesOf(f, none, REAL, v[0], none);
                comesOf(f, none, REAL, none, v[0]);
                comesOf(f, none, REAL, none, none);
            }
        }
    }

    private static void comparisons() {
        C.part("less than, and the same");
        long[] ints = {MIN, -1, 0, 1, MAX};
        compared(24, 27, INT, ints);
        long[] longs = {LEAST, MIN - 1, MIN, -1, 0, 1, MAX, MAX + 1, 1L << 32, (1L << 32) + 1, MOST};
        compared(25, 28, LONG, longs);
        long[] reals = {SIGN | INFINITE, real(-Double.MAX_VALUE), real(-1), SIGN | 2, SIGN | 1, 0, 1, 2, real(1),
            real(Double.MAX_VALUE), INFINITE};
        compared(26, 29, REAL, reals);
        String[] sorted = {"", "a", "aa", "aaaaaaaa", "aab", "ab", "az", "azzzzzzz", "b", "ba", "z", "zz", "zzzzzzzz"};
        long[] words = new long[sorted.length];
        for (int i = 0; i < words.length; i++) {
            words[i] = word(sorted[i]);
        }
        compared(31, 30, WORD, words);
        C.part("no number is less than none, nor the same");
        for (long v : new long[] {NO_NUMBER, 0, real(1), INFINITE, SIGN | INFINITE}) {
            comesOf(26, 0, REAL, NO_NUMBER, v);
            comesOf(26, 0, REAL, v, NO_NUMBER);
            comesOf(29, 0, REAL, NO_NUMBER, v);
            comesOf(29, 0, REAL, v, NO_NUMBER);
        }
        C.part("both zeros");
        comesOf(26, 0, REAL, SIGN, 0);
        comesOf(26, 0, REAL, 0, SIGN);
        comesOf(29, 1, REAL, SIGN, 0);
        comesOf(29, 1, REAL, 0, SIGN);
    }

    /** Of VALUES in their order, each one with each. */
    private static void compared(int less, int same, int kind, long[] sorted) {
        for (int i = 0; i < sorted.length; i++) {
            for (int k = 0; k < sorted.length; k++) {
                comesOf(less, i < k ? 1 : 0, kind, sorted[i], sorted[k]);
                comesOf(same, i == k ? 1 : 0, kind, sorted[i], sorted[k]);
            }
        }
    }

    private static void truths() {
        C.part("TRUTHS, and choices by them");
        comesOf(32, 1, TRUTH, 0);
        comesOf(32, 0, TRUTH, 1);
        comesOf(52, 1, TRUTH, 1);
        comesOf(52, 0, TRUTH, 0);
        long[][] both = {{0, 0, 0, 0}, {0, 1, 0, 1}, {1, 0, 0, 1}, {1, 1, 1, 1}};
        for (long[] v : both) {
            comesOf(33, v[2], TRUTH, v[0], v[1]);
            comesOf(34, v[3], TRUTH, v[0], v[1]);
        }
        int[] kinds = {INT, LONG, WORD};
        long[][] edges = {{MIN, MAX}, {LEAST, MOST}, {word(""), word("zzzzzzzz")}};
        for (int k = 0; k < kinds.length; k++) {
            Bench b = new Bench();
            b.leaf(35 + k);
            comes(b, "the second one", 0, edges[k][0], TRUTH, 1, kinds[k], edges[k][0], kinds[k], edges[k][1]);
            comes(b, "the third one", 0, edges[k][1], TRUTH, 0, kinds[k], edges[k][0], kinds[k], edges[k][1]);
        }
        Bench b = new Bench();
        b.leaf(38);
        row(b, 0, 1, 2);
        C.due("the second row", run(b, 0, TRUTH, 1, ROW, 0, ROW, 1), 0);
        items(b, "the second row", 1, 2);
        C.due("the third row", run(b, 0, TRUTH, 0, ROW, 0, ROW, 1), 0);
        items(b, "the third row");
    }

    /** A row of n items: 0, 10, 20, .. */
    private static Bench withRow(int f, int n) {
        Bench b = new Bench();
        b.leaf(f);
        b.board(0, n);
        for (int i = 1; i < n; i++) {
            b.put(0, i, 10L * i);
        }
        return b;
    }

    private static void rows() {
        C.part("ROWS of 0, 1, 3 and 64 items");
        for (int n : new int[] {0, 1, 3, 64}) {
            comes(withRow(39, n), "39, how long " + n, 0, n, ROW, 0);
            comes(withRow(41, n), "41, the sum of " + n, 0, 5L * n * (n - 1), ROW, 0);
            comes(withRow(43, n), "43, the last one of " + n, 0, n - 1, ROW, 0, LONG, 10L * n - 10);
            comes(withRow(43, n), "43, none of " + n, 0, -1, ROW, 0, LONG, 5);
            Bench item = withRow(40, n);
            Bench change = withRow(44, n);
            if (n > 0) {
                comes(item, "40, the first one of " + n, 0, 0, ROW, 0, INT, 0);
                comes(item, "40, the last one of " + n, 0, 10L * n - 10, ROW, 0, INT, n - 1);
                C.due("44, call", run(change, 0, ROW, 0, INT, n - 1, LONG, LEAST), 0);
                C.due("44, how many", change.result(), n);
                C.due("44, the last one of " + n, change.item(n - 1), LEAST);
                C.due("44, the others", change.item(n - 2), Math.max(10L * n - 20, 0));
                spent(change, "44 of " + n, 1, 1, 1, n, 0);
            }
            for (long i : new long[] {-1, n, 64, MIN, MAX}) {
                fails(item, "40 at " + i, 0, BOUNDS, 0, ROW, 0, INT, i);
                fails(change, "44 at " + i, 0, BOUNDS, 0, ROW, 0, INT, i, LONG, 1);
                spent(change, "44 at " + i, 1, 1, 0, 0, 1);
            }
            parts(n);
        }
        C.part("ROWS by hand");
        Bench sums = new Bench();
        sums.leaf(41);
        row(sums, 0, MOST, 1);
        comes(sums, "a sum wraps", 0, LEAST, ROW, 0);
        Bench both = new Bench();
        int changed = both.bind(both.bind(both.leaf(44), 2, 9), 1, 0);
        int choose = both.fold(both.permute(both.leaf(38), 3, order(2, 0, 1)), changed);
        row(both, 0, 4, 5);
        C.due("call", run(both, choose, ROW, 0, TRUTH, 1), 0);
        items(both, "the changed one", 9, 5);
        C.due("call", run(both, choose, ROW, 0, TRUTH, 0), 0);
        items(both, "the one it was made of", 4, 5);
        Bench first = new Bench();
        first.leaf(43);
        row(first, 0, 7, 9, 7, 9, 0);
        comes(first, "the first place", 0, 0, ROW, 0, LONG, 7);
        comes(first, "the first place of two", 0, 1, ROW, 0, LONG, 9);
        comes(first, "the last place", 0, 4, ROW, 0, LONG, 0);
        first.board(0, 1);
        first.board(0, 0);
        comes(first, "no place", 0, -1, ROW, 0, LONG, 0);
    }

    private static void parts(int n) {
        Bench b = withRow(42, n);
        int half = n / 2;
        long[][] good = {{0, 0}, {n, n}, {0, n}, {half, half}, {half, n}, {0, half}};
        for (long[] v : good) {
            C.due("42, call", run(b, 0, ROW, 0, INT, v[0], INT, v[1]), 0);
            long[] due = new long[(int) (v[1] - v[0])];
            for (int i = 0; i < due.length; i++) {
                due[i] = 10 * (v[0] + i);
            }
            items(b, "42 of " + n + " from " + v[0] + " to " + v[1], due);
            spent(b, "42 of " + n, 1, 1, 1, due.length, 0);
        }
        long[][] bad = {{-1, 0}, {-1, -1}, {0, -1}, {0, n + 1}, {n, n + 1}, {n + 1, n + 1}, {half + 1, half}, {MIN, MAX},
            {MAX, MIN}, {MIN, 0}, {0, MAX}};
        for (long[] v : bad) {
            fails(b, "42 of " + n + " from " + v[0] + " to " + v[1], 0, BOUNDS, 0, ROW, 0, INT, v[0], INT, v[1]);
            spent(b, "42 of " + n, 1, 1, 0, 0, 1);
        }
    }

    private static void words() {
        C.part("WORDS of 0 to 8 letters");
        String[] all = {"", "a", "z", "abc", "zzzzzzz", "abcdefgh"};
        for (String x : all) {
            comesOf(48, x.length(), WORD, word(x));
            for (String y : all) {
                if (x.length() + y.length() <= 8) {
                    comesOf(45, word(x + y), WORD, word(x), word(y));
                } else {
                    failsOf(45, LENGTH, WORD, word(x), word(y));
                }
            }
            letters(x);
        }
        comesOf(45, word("abcdabcd"), WORD, word("abcd"), word("abcd"));
        failsOf(45, LENGTH, WORD, word("abcd"), word("abcde"));
        failsOf(45, LENGTH, WORD, word("abcdefgh"), word("a"));
        failsOf(45, LENGTH, WORD, word("a"), word("abcdefgh"));
    }

    private static void letters(String x) {
        Bench first = new Bench();
        first.leaf(46);
        Bench letter = new Bench();
        letter.leaf(47);
        for (int n = 0; n <= x.length(); n++) {
            comes(first, "46, " + n + " of " + x, 0, word(x.substring(0, n)), WORD, word(x), INT, n);
            if (n < x.length()) {
                comes(letter, "47 at " + n + " of " + x, 0, x.charAt(n) - 'a' + 1, WORD, word(x), INT, n);
            }
        }
        for (long n : new long[] {-1, x.length() + 1, 9, MIN, MAX}) {
            fails(first, "46, " + n + " of " + x, 0, BOUNDS, 0, WORD, word(x), INT, n);
            fails(letter, "47 at " + n + " of " + x, 0, BOUNDS, 0, WORD, word(x), INT, n);
        }
        fails(letter, "47 behind the last one of " + x, 0, BOUNDS, 0, WORD, word(x), INT, x.length());
    }

    private static void state() {
        C.part("THE COUNT and THE NOTE");
        Bench b = new Bench();
        int count = b.leaf(49);
        int note = b.leaf(50);
        int told = b.leaf(51);
        int nothing = b.leaf(53);
        C.due("the count at first", b.spent(5), 0);
        C.due("the note at first", b.spent(6), 0);
        comes(b, "the note at first", told, 0);
        comes(b, "one more, and told", count, 1);
        comes(b, "nothing", nothing, 0);
        C.due("the count stays", b.spent(5), 1);
        comes(b, "one more, and told", count, 2);
        for (long v : new long[] {LEAST, MOST, -1}) {
            comes(b, "the note becomes it", note, 0, LONG, v);
            C.due("the note", b.spent(6), v);
            C.due("the count", b.spent(5), 2);
            comes(b, "the note is told", told, v);
        }
        int own = b.leaf(8);
        int counting = b.fold(b.drop(own, 0, LONG), count);
        fails(b, "a call that fails", counting, OWN, own, INT, 1);
        C.due("the count stays over it", b.spent(5), 3);
        int noting = b.fold(b.drop(own, 0, LONG), note);
        C.due("fold of nothing", noting, b.told(0) - 1);
        fails(b, "a call that fails", noting, OWN, own, LONG, 12, INT, 1);
        C.due("the note stays over it", b.spent(6), 12);
        C.refused(b, "a call that is refused", () -> b.call(note), TYPE, 1);
        b.sweep();
        C.due("the count stays over a sweep", b.spent(5), 3);
        C.due("the note stays over a sweep", b.spent(6), 12);
        comes(b, "a new handle tells it", b.leaf(51), 12);
    }
}
