import java.util.ArrayList;
import java.util.List;
import java.util.function.ToLongFunction;

/**
 * A CallBench that is never used for more calls than are promised: before these run out, a new object is
 * given the same changes, and then the latest call, so that a test may ask as often as it likes.
 */
final class Bench {
    static final int MOST_CALLS = 512;

    private final List<ToLongFunction<CallBench>> changes = new ArrayList<>();
    private CallBench object = new CallBench();
    /** The latest call that status() tells of, if it changed nothing else. */
    private ToLongFunction<CallBench> latest;
    private int calls;

    /** So many calls from now on go to one object. */
    void makeRoom(int n) {
        if (calls + n <= MOST_CALLS) {
            return;
        }
        if (changes.size() + 1 + n > MOST_CALLS) {
            throw new IllegalStateException("a test needs more calls of one object than are promised");
        }
        object = new CallBench();
        calls = 0;
        for (ToLongFunction<CallBench> change : changes) {
            made(change);
        }
        if (latest != null) {
            made(latest);
        }
    }

    private long made(ToLongFunction<CallBench> call) {
        calls++;
        return call.applyAsLong(object);
    }

    /** A call that changes the object, if it is not refused. */
    private int change(ToLongFunction<CallBench> call) {
        makeRoom(1);
        int answer = (int) made(call);
        if (answer < 0) {
            latest = call;
        } else {
            changes.add(call);
            latest = null;
        }
        return answer;
    }

    /** A call that changes status() and rule() alone. */
    private long ask(ToLongFunction<CallBench> call) {
        makeRoom(1);
        latest = call;
        return made(call);
    }

    /** A call that changes nothing. */
    private long tell(ToLongFunction<CallBench> call) {
        makeRoom(1);
        return made(call);
    }

    int board(int k, int n) {
        return change(b -> b.board(k, n));
    }

    int put(int k, int i, long v) {
        return change(b -> b.put(k, i, v));
    }

    int leaf(int f) {
        return change(b -> b.leaf(f));
    }

    int constant(int kind, long bits) {
        return change(b -> b.constant(kind, bits));
    }

    int bind(int h, int i, long bits) {
        return change(b -> b.bind(h, i, bits));
    }

    int drop(int h, int i, int kind) {
        return change(b -> b.drop(h, i, kind));
    }

    int permute(int h, int n, int order) {
        return change(b -> b.permute(h, n, order));
    }

    int filter(int h, int i, int f) {
        return change(b -> b.filter(h, i, f));
    }

    int after(int h, int f) {
        return change(b -> b.after(h, f));
    }

    int fold(int h, int f) {
        return change(b -> b.fold(h, f));
    }

    int guard(int test, int yes, int no) {
        return change(b -> b.guard(test, yes, no));
    }

    int spread(int h, int n) {
        return change(b -> b.spread(h, n));
    }

    int collect(int h, int n) {
        return change(b -> b.collect(h, n));
    }

    int widen(int h, int i, int kind) {
        return change(b -> b.widen(h, i, kind));
    }

    int loop(int count, int body) {
        return change(b -> b.loop(count, body));
    }

    int caught(int h, int kind, int f) {
        return change(b -> b.caught(h, kind, f));
    }

    int ensure(int h, int f) {
        return change(b -> b.ensure(h, f));
    }

    int site(int h) {
        return change(b -> b.site(h));
    }

    int retarget(int s, int h) {
        return change(b -> b.retarget(s, h));
    }

    int arg(int kind, long bits) {
        return change(b -> b.arg(kind, bits));
    }

    int noArgs() {
        return change(CallBench::noArgs);
    }

    int call(int h) {
        return change(b -> b.call(h));
    }

    int how() {
        return (int) tell(CallBench::how);
    }

    long result() {
        return tell(CallBench::result);
    }

    long item(int i) {
        return tell(b -> b.item(i));
    }

    int failedAt() {
        return (int) tell(CallBench::failedAt);
    }

    int path(int k) {
        return (int) tell(b -> b.path(k));
    }

    long trace(int k, int what) {
        return tell(b -> b.trace(k, what));
    }

    long spent(int what) {
        return tell(b -> b.spent(what));
    }

    int type(int h, int i) {
        return (int) ask(b -> b.type(h, i));
    }

    int arity(int h) {
        return (int) ask(b -> b.arity(h));
    }

    int about(int h, int what) {
        return (int) ask(b -> b.about(h, what));
    }

    int reaches(int h, int g) {
        return (int) ask(b -> b.reaches(h, g));
    }

    int alike(int x, int y) {
        return (int) ask(b -> b.alike(x, y));
    }

    int quiet(int h) {
        return (int) ask(b -> b.quiet(h));
    }

    int pin(int h, boolean on) {
        return change(b -> b.pin(h, on));
    }

    int sweep() {
        return change(CallBench::sweep);
    }

    int told(int what) {
        return (int) tell(b -> b.told(what));
    }

    int rule() {
        return (int) tell(CallBench::rule);
    }

    int status() {
        return (int) tell(CallBench::status);
    }

    long digest() {
        return ask(CallBench::digest);
    }
}
