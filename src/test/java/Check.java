import java.util.ArrayList;
import java.util.List;
import java.util.function.LongSupplier;

/** Counts the answers that are not the due ones, and prints them. */
final class Check {
    /** More calls than one check of a refused call makes. */
    private static final int CALLS_OF_A_CHECK = 100;

    private int wrong;
    private int asked;
    private String part = "";

    void part(String name) {
        part = name;
    }

    void due(String what, long got, long want) {
        asked++;
        if (got != want) {
            wrong++;
            System.out.println(part + ": " + what + " answered " + got + ", due is " + want);
        }
    }

    /** A call that is done: its answer, and that status() and rule() are 0 then. */
    void done(Bench b, String what, LongSupplier call, long want) {
        due(what, call.getAsLong(), want);
        due(what + ", status()", b.status(), 0);
        due(what + ", rule()", b.rule(), 0);
    }

    /** A call that is refused: its answer, status(), rule(), and that nothing else changed. */
    void refused(Bench b, String what, LongSupplier call, int want, int rule) {
        b.makeRoom(CALLS_OF_A_CHECK);
        List<Long> before = seen(b);
        due(what, call.getAsLong(), want);
        due(what + ", status()", b.status(), want);
        due(what + ", rule()", b.rule(), rule);
        List<Long> after = seen(b);
        asked++;
        if (!before.equals(after)) {
            wrong++;
            System.out.println(part + ": " + what + " changed what is seen from " + before + " to " + after);
        }
    }

    void refused(Bench b, String what, LongSupplier call, int want) {
        refused(b, what, call, want, 0);
    }

    /** What is told of an object, but for status() and rule(): of long lists the ends. */
    static List<Long> seen(Bench b) {
        List<Long> all = new ArrayList<>();
        all.add((long) b.how());
        all.add(b.result());
        for (int i : new int[] {0, 1, 2, 63}) {
            all.add(b.item(i));
        }
        all.add((long) b.failedAt());
        for (int what = 0; what <= 4; what++) {
            all.add((long) b.told(what));
        }
        for (int k : new int[] {0, 1, b.told(3) - 1, b.told(3)}) {
            all.add((long) b.path(k));
        }
        for (int what = 0; what <= 6; what++) {
            all.add(b.trace(0, what));
            all.add(b.spent(what));
        }
        all.add(b.trace(b.told(4) - 1, 0));
        all.add(b.trace(b.told(4), 0));
        all.add(b.digest());
        return all;
    }

    /** Tells how it went; ends the program if an answer was not the due one. */
    void end(String name) {
        System.out.println(name + ": " + (asked - wrong) + " of " + asked + " answers are as due");
        if (wrong != 0) {
            System.exit(1);
        }
    }
}
