import com.sun.management.ThreadMXBean;
import java.lang.management.ManagementFactory;

/** What an object and its calls make: all calls of one run stand in one room. */
public final class RoomTest {
    private static final long MOST_OF_OBJECT = 300_000, MOST_OF_CALLS = 50_000, MOST_OF_HANDLES = 500_000;
    /** With what is made before, an object is used for no more calls than are promised. */
    private static final int ROUNDS = 66;

    private RoomTest() {
    }

    public static void main(String[] args) {
        long start = made();
        CallBench b = new CallBench();
        long object = made() - start;
        start = made();
        for (int k = 0; k < 8; k++) {
            b.board(k, 64);
        }
        int row = b.leaf(39);
        int change = b.leaf(44);
        for (int k = 0; k < 100; k++) {
            b.bind(row, 0, k % 8);
        }
        long handles = made() - start;
        start = made();
        int dear = dearest(b);
        long steps = 0;
        for (int k = 0; k < ROUNDS; k++) {
            b.arg(0, 0);
            b.call(dear);
            steps += b.spent(0);
            b.digest();
            b.alike(dear, change);
            b.reaches(dear, change);
        }
        long calls = made() - start;
        System.out.println("RoomTest: bytes of an object " + object + ", of 102 handles " + handles + ", of calls with "
                + steps + " steps " + calls);
        if (object > MOST_OF_OBJECT || handles > MOST_OF_HANDLES || calls > MOST_OF_CALLS || steps != ROUNDS * 20000) {
            System.out.println("RoomTest: that is too much, or too little was called");
            System.exit(1);
        }
    }

    /** Loops in loops, up to the last step. */
    private static int dearest(CallBench b) {
        int many = b.constant(0, 999);
        int loop = b.loop(many, b.leaf(0));
        return b.loop(many, b.drop(loop, 1, 0));
    }

    private static long made() {
        ThreadMXBean threads = (ThreadMXBean) ManagementFactory.getThreadMXBean();
        return threads.getThreadAllocatedBytes(Thread.currentThread().getId());
    }
}
