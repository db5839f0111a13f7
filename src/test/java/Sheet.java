/** What the tests have in common: the KINDS, the BITS of VALUES, and checks of a call and of a HANDLE. */
abstract class Sheet {
    static final int INT = 0, LONG = 1, REAL = 2, TRUTH = 3, WORD = 4, ROW = 5, NOTHING = 6;
    static final int BAD = -1, UNKNOWN = -2, FULL = -3, TYPE = -4, NO = -5, NONE = -6;
    static final int ZERO = 1, BOUNDS = 2, LENGTH = 3, DEPTH = 4, ROUNDS = 5, OWN = 6, ROOM = 7;
    static final int MOST_HANDLES = 120;
    static final long NO_NUMBER = 0x7ff8000000000000L;
    static final Check C = new Check();

    static long real(double d) {
        return Double.doubleToLongBits(d);
    }

    static long word(String letters) {
        long bits = 0;
        for (char l : letters.toCharArray()) {
            bits = bits << 5 | l - 'a' + 1;
        }
        return bits;
    }

    /** An ORDER: of each PARAMETER the number of the one that it takes. */
    static int order(int... taken) {
        int bits = 0;
        for (int j = 0; j < taken.length; j++) {
            bits |= taken[j] << 3 * j;
        }
        return bits;
    }

    /** A row of THE BOARD gets these items. */
    static void row(Bench b, int k, long... items) {
        b.board(k, items.length);
        for (int i = 0; i < items.length; i++) {
            b.put(k, i, items[i]);
        }
    }

    static void fillTo(Bench b, int handles) {
        while (b.told(0) < handles) {
            b.leaf(53);
        }
    }

    static void fill(Bench b) {
        fillTo(b, MOST_HANDLES);
    }

    /** So many SITES, one over the other: the last one. */
    static int sites(Bench b, int h, int n) {
        int top = h;
        for (int k = 0; k < n; k++) {
            top = b.site(top);
        }
        return top;
    }

    /** DROPS at the end, until it has so many PARAMETERS. */
    static int widened(Bench b, int h, int arity, int kind) {
        int wide = h;
        for (int n = b.arity(h); n < arity; n++) {
            wide = b.drop(wide, n, kind);
        }
        return wide;
    }

    /** Ends a call with these ARGS, told as KIND, bits, KIND, bits, .. */
    static int run(Bench b, int h, long... args) {
        if (b.told(2) > 0) {
            b.noArgs();
        }
        for (int i = 0; i < args.length; i += 2) {
            b.arg((int) args[i], args[i + 1]);
        }
        return b.call(h);
    }

    static void comes(Bench b, String what, int h, long due, long... args) {
        C.due(what + ", call", run(b, h, args), 0);
        C.due(what + ", result", b.result(), due);
        C.due(what + ", how", b.how(), 0);
        C.due(what + ", failedAt", b.failedAt(), NONE);
        C.due(what + ", path(0)", b.path(0), NONE);
    }

    static void fails(Bench b, String what, int h, int kind, int at, long... args) {
        C.due(what + ", call", run(b, h, args), kind);
        C.due(what + ", how", b.how(), kind);
        C.due(what + ", result", b.result(), 0);
        C.due(what + ", item(0)", b.item(0), 0);
        C.due(what + ", failedAt", b.failedAt(), at);
        C.due(what + ", path(0)", b.path(0), at);
    }

    /** The whole PATH of the latest call. */
    static void path(Bench b, String what, int... due) {
        C.due(what + ", how long the path is", b.told(3), due.length);
        for (int k = 0; k < due.length; k++) {
            C.due(what + ", path(" + k + ")", b.path(k), due[k]);
        }
        C.due(what + ", path(-1)", b.path(-1), NONE);
        C.due(what + ", beyond the path", b.path(due.length), NONE);
        C.due(what + ", failedAt", b.failedAt(), due.length == 0 ? NONE : due[0]);
    }

    /** All items of the ROW that came. */
    static void items(Bench b, String what, long... due) {
        C.due(what + ", how many items", b.result(), due.length);
        for (int i = 0; i < due.length; i++) {
            C.due(what + ", item(" + i + ")", b.item(i), due[i]);
        }
        C.due(what + ", item(-1)", b.item(-1), 0);
        C.due(what + ", beyond the items", b.item(due.length), 0);
    }

    /** What was spent, from STEPS on. */
    static void spent(Bench b, String what, long... due) {
        for (int k = 0; k < due.length; k++) {
            C.due(what + ", spent(" + k + ")", b.spent(k), due[k]);
        }
    }

    /** The HANDLES of the whole TRACE. */
    static void traced(Bench b, String what, int... due) {
        C.due(what + ", how long the trace is", b.told(4), due.length);
        for (int k = 0; k < due.length; k++) {
            C.due(what + ", trace(" + k + ", 0)", b.trace(k, 0), due[k]);
        }
    }

    static void type(Bench b, int h, int result, int... kinds) {
        C.done(b, "arity " + h, () -> b.arity(h), kinds.length);
        C.done(b, "type " + h + " -1", () -> b.type(h, -1), result);
        for (int i = 0; i < kinds.length; i++) {
            C.due("type " + h + " " + i, b.type(h, i), kinds[i]);
        }
        C.refused(b, "type " + h + " beyond", () -> b.type(h, kinds.length), BAD);
    }

    static void about(Bench b, int h, int... due) {
        for (int what = 0; what < due.length; what++) {
            C.due("about " + h + " " + what, b.about(h, what), due[what]);
            C.due("status of about", b.status(), 0);
        }
    }

    /** Both ways. */
    static void alike(Bench b, String what, int one, int two, int due) {
        C.done(b, what, () -> b.alike(one, two), due);
        C.done(b, what + ", turned", () -> b.alike(two, one), due);
    }
}
