/** The functions of REALS, and LONG to REAL, beside what the machine's own doubles come to. */
public final class RealsTest {
    private static final int OPERANDS = 60000, CALLS_OF_ONE = 500;
    private static final long NO_NUMBER = 0x7ff8000000000000L;
    private static final long[] EDGES = {0, 1L << 63, 1, 2, 3, 0x000fffffffffffffL, 0x0010000000000000L,
        0x0010000000000001L, 0x001fffffffffffffL, 0x7fefffffffffffffL, 0x7fe0000000000000L, 0x7ff0000000000000L,
        0xfff0000000000000L, NO_NUMBER, 0x3ff0000000000000L, 0xbff0000000000000L, 0x3fefffffffffffffL,
        0x3ff0000000000001L, 0x3fe0000000000000L, 0xbfe0000000000000L, 0x4330000000000000L, 0x4330000000000001L,
        0x432fffffffffffffL, 0x4340000000000000L, 0x433fffffffffffffL, 0x8000000000000001L, 0xffefffffffffffffL,
        0x3ca0000000000000L, 0x3ca0000000000001L, 0xbca0000000000000L, 0x0008000000000000L, 0x4000000000000000L};
    private static final Check C = new Check();

    private static long seed = 42;
    private static CallBench bench;
    private static int calls = CALLS_OF_ONE;
    private static final int[] LEAVES = {16, 17, 18, 19, 20, 21, 26, 29, 22, 23};
    private static int wide;

    private RealsTest() {
    }

    public static void main(String[] args) {
        for (long a : EDGES) {
            one(a);
            for (long b : EDGES) {
                two(a, b);
            }
        }
        for (int k = 0; k < OPERANDS; k++) {
            long a = number();
            long b = any(3) == 0 ? near(a) : number();
            one(a);
            two(a, b);
            whole(seed >> any(64));
            whole((1L << any(64)) + any(5) - 2);
            whole((seed >> any(64)) << any(64));
        }
        C.end("RealsTest");
    }

    private static int any(int n) {
        seed = seed * 6364136223846793005L + 1442695040888963407L;
        return (int) Long.remainderUnsigned(seed >>> 24, n);
    }

    private static long bits() {
        any(2);
        long high = seed;
        any(2);
        return high ^ seed >>> 32;
    }

    private static long told(long bits) {
        return Double.isNaN(Double.longBitsToDouble(bits)) ? NO_NUMBER : bits;
    }

    private static long number() {
        switch (any(6)) {
            case 0:
                return told(bits());
            case 1:
                return told(bits() & 0x800fffffffffffffL | (long) (1000 + any(80)) << 52);
            case 2:
                return told(bits() & 0x801fffffffffffffL);
            case 3:
                return Double.doubleToLongBits((any(2000) - 1000) / 8.0);
            case 4:
                // Few digits, so that sums and products end half way between two numbers.
                return told(bits() & 0xfff0000000000000L | (long) any(16) << 48 | any(4));
            default:
                return EDGES[any(EDGES.length)];
        }
    }

    private static long near(long a) {
        return told((a ^ (long) any(2) << 63) + ((long) (any(120) - 60) << 52) + any(3) - 1);
    }

    /** Makes a new object when the one has been called as often as is promised. */
    private static void take(int more) {
        calls += more;
        if (calls < CALLS_OF_ONE) {
            return;
        }
        calls = more;
        bench = new CallBench();
        for (int f : LEAVES) {
            bench.leaf(f);
        }
        wide = bench.widen(bench.permute(bench.leaf(36), 2, 0 | 1 << 3 | 1 << 6), -1, 2);
    }

    private static void due(String what, int h, long a, long b, long due) {
        C.due(what + " call", bench.call(h), 0);
        C.due(what + " of " + Long.toHexString(a) + " " + Long.toHexString(b), bench.result(), due);
    }

    private static void two(long a, long b) {
        double x = Double.longBitsToDouble(a);
        double y = Double.longBitsToDouble(b);
        long[] due = {Double.doubleToLongBits(x + y), Double.doubleToLongBits(x - y), Double.doubleToLongBits(x * y),
            Double.doubleToLongBits(x / y), Double.doubleToLongBits(Math.min(x, y)),
            Double.doubleToLongBits(Math.max(x, y)), x < y ? 1 : 0, x == y ? 1 : 0};
        for (int k = 0; k < due.length; k++) {
            take(4);
            bench.arg(2, a);
            bench.arg(2, b);
            due("function " + LEAVES[k], k, a, b, due[k]);
        }
    }

    private static void one(long a) {
        double x = Double.longBitsToDouble(a);
        long[] due = {Double.doubleToLongBits(Math.floor(x)), Double.doubleToLongBits(-x)};
        for (int k = 0; k < due.length; k++) {
            take(3);
            bench.arg(2, a);
            due("function " + LEAVES[8 + k], 8 + k, a, 0, due[k]);
        }
    }

    private static void whole(long v) {
        take(4);
        bench.arg(3, 1);
        bench.arg(1, v);
        due("LONG to REAL", wide, v, 0, Double.doubleToLongBits(v));
    }
}
