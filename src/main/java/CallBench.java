/**
 * A bench for calls: typed handles are made of listed functions and of constants, combined, invoked
 * and compared. What each call promises stands in the document; this file follows its words.
 */
public final class CallBench {
    public static final int BAD = -1, UNKNOWN = -2, FULL = -3, TYPE = -4, NO = -5, NONE = -6;

    private final Rows rows = new Rows();
    private final Handles handles = new Handles(rows);
    private final Machine machine = new Machine(rows);
    private final int[] argKinds = new int[Type.WIDEST];
    private final long[] argValues = new long[Type.WIDEST];
    private int argCount;
    private int status;
    private int rule;

    public CallBench() {
    }

    // ---- 1 the board

    public int board(int k, int n) {
        if (!Rows.isOnBoard(k) || n < 0 || n > Rows.LONGEST) {
            return refused(BAD);
        }
        rows.reset(Rows.BOARD + k, n);
        return done(n);
    }

    public int put(int k, int i, long v) {
        if (!Rows.isOnBoard(k) || !rows.has(Rows.BOARD + k, i)) {
            return refused(BAD);
        }
        rows.set(Rows.BOARD + k, i, v);
        return done(1);
    }

    // ---- 2 handles

    public int leaf(int f) {
        if (!Functions.isListed(f)) {
            return refused(BAD);
        }
        if (handles.isFull()) {
            return refused(FULL);
        }
        return added(new Handle(Handle.FUNCTION, Functions.typeOf(f), null, null, f));
    }

    public int constant(int kind, long bits) {
        if (!Kinds.tells(kind, bits)) {
            return refused(BAD);
        }
        if (handles.isFull()) {
            return refused(FULL);
        }
        Handle made = new Handle(Handle.CONSTANT, new Type(new int[0], kind), null, null, 0);
        made.value = bits;
        return added(made);
    }

    public int bind(int h, int i, long bits) {
        Handle target = handles.at(h);
        if (target == null) {
            return refused(UNKNOWN);
        }
        if (!Kinds.tells(target.type.kind(i), bits)) {
            return refused(BAD);
        }
        if (handles.isFull()) {
            return refused(FULL);
        }
        Type left = target.type.spliced(i, 1, 0, Kinds.NOTHING);
        Handle made = new Handle(Handle.BIND, left, target, null, i);
        made.value = bits;
        return added(made);
    }

    public int drop(int h, int i, int kind) {
        Handle target = handles.at(h);
        if (target == null) {
            return refused(UNKNOWN);
        }
        if (i < 0 || i > target.type.arity || !Kinds.isOfValue(kind)) {
            return refused(BAD);
        }
        if (handles.isFull()) {
            return refused(FULL);
        }
        if (target.type.arity >= Type.WIDEST) {
            return ruledOut(1);
        }
        return added(new Handle(Handle.DROP, target.type.spliced(i, 0, 1, kind), target, null, i));
    }

    public int permute(int h, int n, int order) {
        Handle target = handles.at(h);
        if (target == null) {
            return refused(UNKNOWN);
        }
        if (n < 0 || n > Type.WIDEST) {
            return refused(BAD);
        }
        if (handles.isFull()) {
            return refused(FULL);
        }
        int broken = target.type.brokenBy(n, order);
        if (broken != 0) {
            return ruledOut(broken);
        }
        int kept = Type.kept(order, target.type.arity);
        return added(new Handle(Handle.PERMUTE, target.type.ordered(n, kept), target, null, kept));
    }

    public int filter(int h, int i, int f) {
        Handle target = handles.at(h);
        Handle other = handles.at(f);
        if (target == null || other == null) {
            return refused(UNKNOWN);
        }
        if (!target.type.has(i)) {
            return refused(BAD);
        }
        if (handles.isFull()) {
            return refused(FULL);
        }
        if (other.type.arity != 1) {
            return ruledOut(1);
        }
        if (other.type.result != target.type.kind(i)) {
            return ruledOut(2);
        }
        Type type = target.type.spliced(i, 1, 1, other.type.kind(0));
        return added(new Handle(Handle.FILTER, type, target, other, i));
    }

    public int after(int h, int f) {
        Handle target = handles.at(h);
        Handle other = handles.at(f);
        if (target == null || other == null) {
            return refused(UNKNOWN);
        }
        if (handles.isFull()) {
            return refused(FULL);
        }
        int given = target.type.givenOn();
        if (other.type.arity != given) {
            return ruledOut(1);
        }
        if (given == 1 && other.type.kind(0) != target.type.result) {
            return ruledOut(2);
        }
        return added(new Handle(Handle.AFTER, target.type.returning(other.type.result), target, other, 0));
    }

    public int fold(int h, int f) {
        Handle target = handles.at(h);
        Handle other = handles.at(f);
        if (target == null || other == null) {
            return refused(UNKNOWN);
        }
        if (handles.isFull()) {
            return refused(FULL);
        }
        int given = other.type.givenOn();
        if (given == 1 && target.type.kind(0) != other.type.result) {
            return ruledOut(1);
        }
        if (!target.type.hasFirst(given, other.type)) {
            return ruledOut(2);
        }
        Type type = target.type.spliced(0, given, 0, Kinds.NOTHING);
        return added(new Handle(Handle.FOLD, type, target, other, 0));
    }

    public int guard(int test, int yes, int no) {
        Handle other = handles.at(test);
        Handle target = handles.at(yes);
        Handle third = handles.at(no);
        if (other == null || target == null || third == null) {
            return refused(UNKNOWN);
        }
        if (handles.isFull()) {
            return refused(FULL);
        }
        if (!target.type.isSame(third.type)) {
            return ruledOut(1);
        }
        if (other.type.result != Kinds.TRUTH) {
            return ruledOut(2);
        }
        if (!target.type.hasFirst(0, other.type)) {
            return ruledOut(3);
        }
        Handle made = new Handle(Handle.GUARD, target.type, target, other, 0);
        made.third = third;
        return added(made);
    }

    public int spread(int h, int n) {
        Handle target = handles.at(h);
        if (target == null) {
            return refused(UNKNOWN);
        }
        if (n < 0 || n > Type.WIDEST) {
            return refused(BAD);
        }
        if (handles.isFull()) {
            return refused(FULL);
        }
        if (!target.type.endsInLongs(n)) {
            return ruledOut(1);
        }
        int first = target.type.arity - n;
        if (first >= Type.WIDEST) {
            return ruledOut(2);
        }
        return added(new Handle(Handle.SPREAD, target.type.spliced(first, n, 1, Kinds.ROW), target, null, n));
    }

    public int collect(int h, int n) {
        Handle target = handles.at(h);
        if (target == null) {
            return refused(UNKNOWN);
        }
        if (n < 0 || n > Type.WIDEST) {
            return refused(BAD);
        }
        if (handles.isFull()) {
            return refused(FULL);
        }
        int last = target.type.arity - 1;
        if (target.type.kind(last) != Kinds.ROW) {
            return ruledOut(1);
        }
        if (last + n > Type.WIDEST) {
            return ruledOut(2);
        }
        return added(new Handle(Handle.COLLECT, target.type.spliced(last, 1, n, Kinds.LONG), target, null, n));
    }

    public int widen(int h, int i, int kind) {
        Handle target = handles.at(h);
        if (target == null) {
            return refused(UNKNOWN);
        }
        if (!target.type.tellsOf(i) || !Kinds.isOfValue(kind)) {
            return refused(BAD);
        }
        int had = target.type.kindAt(i);
        if (had == kind) {
            return done(h);
        }
        if (handles.isFull()) {
            return refused(FULL);
        }
        if (i < 0 ? !Kinds.widens(had, kind) : !Kinds.widens(kind, had)) {
            return ruledOut(1);
        }
        Type type = i < 0 ? target.type.returning(kind) : target.type.spliced(i, 1, 1, kind);
        return added(new Handle(Handle.WIDEN, type, target, null, i));
    }

    public int loop(int count, int body) {
        Handle other = handles.at(count);
        Handle target = handles.at(body);
        if (other == null || target == null) {
            return refused(UNKNOWN);
        }
        if (handles.isFull()) {
            return refused(FULL);
        }
        if (other.type.result != Kinds.INT) {
            return ruledOut(1);
        }
        if (target.type.arity < 2 || target.type.kind(0) != target.type.result
                || target.type.kind(1) != Kinds.INT) {
            return ruledOut(2);
        }
        if (!target.type.hasFirst(2, other.type)) {
            return ruledOut(3);
        }
        Type type = target.type.spliced(1, 1, 0, Kinds.NOTHING);
        return added(new Handle(Handle.LOOP, type, target, other, 0));
    }

    public int caught(int h, int kind, int f) {
        Handle target = handles.at(h);
        Handle other = handles.at(f);
        if (target == null || other == null) {
            return refused(UNKNOWN);
        }
        if (!Failures.canBeCaught(kind)) {
            return refused(BAD);
        }
        if (handles.isFull()) {
            return refused(FULL);
        }
        if (other.type.result != target.type.result) {
            return ruledOut(1);
        }
        if (!target.type.hasFirst(0, other.type)) {
            return ruledOut(2);
        }
        return added(new Handle(Handle.CATCH, target.type, target, other, kind));
    }

    public int ensure(int h, int f) {
        Handle target = handles.at(h);
        Handle other = handles.at(f);
        if (target == null || other == null) {
            return refused(UNKNOWN);
        }
        if (handles.isFull()) {
            return refused(FULL);
        }
        if (other.type.result != Kinds.NOTHING) {
            return ruledOut(1);
        }
        if (!target.type.hasFirst(0, other.type)) {
            return ruledOut(2);
        }
        return added(new Handle(Handle.ENSURE, target.type, target, other, 0));
    }

    public int site(int h) {
        Handle target = handles.at(h);
        if (target == null) {
            return refused(UNKNOWN);
        }
        if (handles.isFull()) {
            return refused(FULL);
        }
        return added(new Handle(Handle.SITE, target.type, target, null, 0));
    }

    public int retarget(int s, int h) {
        Handle changed = handles.at(s);
        Handle target = handles.at(h);
        if (changed == null || target == null) {
            return refused(UNKNOWN);
        }
        if (changed.sort != Handle.SITE) {
            return refused(BAD);
        }
        if (!changed.type.isSame(target.type)) {
            return ruledOut(1);
        }
        if (s == h || handles.isReached(target, changed)) {
            return refused(NO);
        }
        changed.target = target;
        changed.detail++;
        return done(changed.detail);
    }

    // ---- 3 calls

    public int arg(int kind, long bits) {
        if (!Kinds.tells(kind, bits)) {
            return refused(BAD);
        }
        if (argCount >= argKinds.length || argCount >= argValues.length) {
            return refused(FULL);
        }
        argKinds[argCount] = kind;
        argValues[argCount] = rows.captured(kind, bits, Rows.ARGS + argCount);
        argCount++;
        return done(argCount);
    }

    public int noArgs() {
        int had = argCount;
        argCount = 0;
        return done(had);
    }

    public int call(int h) {
        Handle called = handles.at(h);
        if (called == null) {
            return refused(UNKNOWN);
        }
        if (called.type.arity != argCount) {
            return ruledOut(1);
        }
        for (int i = 0; i < argCount && i < argKinds.length; i++) {
            if (called.type.kind(i) != argKinds[i]) {
                return ruledOut(2);
            }
        }
        argCount = 0;
        return done(machine.run(called, argValues));
    }

    public int how() {
        return machine.how;
    }

    public long result() {
        return machine.result;
    }

    public long item(int i) {
        return rows.get(Rows.RESULT, i);
    }

    public int failedAt() {
        return machine.wayAt(0);
    }

    public int path(int k) {
        return machine.wayAt(k);
    }

    public long trace(int k, int what) {
        return machine.trace.at(k, what);
    }

    public long spent(int what) {
        return machine.used(what);
    }

    // ---- 4 handles asked

    public int type(int h, int i) {
        Handle asked = handles.at(h);
        if (asked == null) {
            return refused(UNKNOWN);
        }
        if (!asked.type.tellsOf(i)) {
            return refused(BAD);
        }
        return done(asked.type.kindAt(i));
    }

    public int arity(int h) {
        Handle asked = handles.at(h);
        if (asked == null) {
            return refused(UNKNOWN);
        }
        return done(asked.type.arity);
    }

    public int about(int h, int what) {
        Handle asked = handles.at(h);
        if (asked == null) {
            return refused(UNKNOWN);
        }
        if (what < 0 || what > 4) {
            return refused(BAD);
        }
        return done(asked.fact(what));
    }

    public int reaches(int h, int g) {
        Handle from = handles.at(h);
        Handle to = handles.at(g);
        if (from == null || to == null) {
            return refused(UNKNOWN);
        }
        return done(handles.isReached(from, to) ? 1 : 0);
    }

    public int alike(int a, int b) {
        Handle one = handles.at(a);
        Handle two = handles.at(b);
        if (one == null || two == null) {
            return refused(UNKNOWN);
        }
        return done(one.form == two.form ? 1 : 0);
    }

    public int quiet(int h) {
        Handle asked = handles.at(h);
        if (asked == null) {
            return refused(UNKNOWN);
        }
        return done(asked.form != null && asked.form.isQuiet ? 1 : 0);
    }

    public int pin(int h, boolean on) {
        Handle changed = handles.at(h);
        if (changed == null) {
            return refused(UNKNOWN);
        }
        boolean was = changed.pinned;
        changed.pinned = on;
        return done(was ? 1 : 0);
    }

    public int sweep() {
        return done(handles.removeUnheld());
    }

    public int told(int what) {
        switch (what) {
            case 0:
                return handles.count;
            case 1:
                return handles.pinnedCount();
            case 2:
                return argCount;
            case 3:
                return machine.wayLength();
            case 4:
                return machine.trace.kept();
            default:
                return BAD;
        }
    }

    public int rule() {
        return rule;
    }

    public int status() {
        return status;
    }

    public long digest() {
        long sum = 17;
        for (int h = 0; h < Handles.MOST; h++) {
            sum = withHandle(sum, handles.at(h));
        }
        for (int i = 0; i < argCount && i < argKinds.length && i < argValues.length; i++) {
            sum = withValue(with(sum, argKinds[i]), argKinds[i], argValues[i]);
        }
        for (int k = 0; k < Rows.ON_BOARD; k++) {
            sum = withValue(sum, Kinds.ROW, Rows.BOARD + k);
        }
        sum = with(with(sum, machine.used(5)), machine.used(6));
        done(0);
        return sum;
    }

    private static long with(long sum, long n) {
        return 31 * sum + n;
    }

    private long withHandle(long before, Handle h) {
        if (h == null) {
            return before;
        }
        long sum = with(with(before, h.number), h.sort);
        for (int i = 0; i < h.type.arity; i++) {
            sum = with(sum, h.type.kind(i));
        }
        sum = with(sum, h.type.result);
        for (int what = 1; what <= 4; what++) {
            sum = with(sum, h.fact(what));
        }
        if (h.valueKind() != Kinds.NOTHING) {
            sum = withValue(sum, h.valueKind(), h.value);
        }
        return with(sum, h.pinned ? 1 : 0);
    }

    private long withValue(long before, int kind, long value) {
        long sum = with(before, rows.bitsOf(kind, value));
        if (kind == Kinds.ROW) {
            for (int i = 0; i < rows.length(value); i++) {
                sum = with(sum, rows.get(value, i));
            }
        }
        return sum;
    }

    private int done(int answer) {
        status = 0;
        rule = 0;
        return answer;
    }

    private int refused(int why) {
        status = why;
        rule = 0;
        return why;
    }

    private int ruledOut(int broken) {
        status = TYPE;
        rule = broken;
        return TYPE;
    }

    private int added(Handle made) {
        handles.add(made);
        return done(made.number);
    }

    /** The KINDS, and which BITS tell a VALUE of them. */
    private static final class Kinds {
        static final int INT = 0, LONG = 1, REAL = 2, TRUTH = 3, WORD = 4, ROW = 5, NOTHING = 6;
        static final int LETTERS = 8;
        static final String SIGNS = "ilrtwon";

        private Kinds() {
        }

        static boolean isOfValue(int kind) {
            return kind >= INT && kind <= ROW;
        }

        static boolean tells(int kind, long bits) {
            switch (kind) {
                case INT:
                    return bits == (int) bits;
                case LONG:
                    return true;
                case REAL:
                    return bits == Reals.NO_NUMBER || !Reals.isNoNumber(bits);
                case TRUTH:
                    return bits == 0 || bits == 1;
                case WORD:
                    return letters(bits) >= 0;
                case ROW:
                    return bits >= 0 && bits < Rows.ON_BOARD;
                default:
                    return false;
            }
        }

        /** How many letters the bits tell, or -1: they tell no WORD. */
        static int letters(long bits) {
            long rest = bits;
            for (int n = 0; n <= LETTERS; n++) {
                if (rest == 0) {
                    return n;
                }
                long last = rest & 31;
                if (last < 1 || last > 26) {
                    return -1;
                }
                rest >>>= 5;
            }
            return -1;
        }

        static boolean widens(int from, int to) {
            if (from == to) {
                return isOfValue(from);
            }
            return to == REAL && (from == INT || from == LONG) || to == LONG && from == INT;
        }

        static long widened(int from, int to, long value) {
            return to == REAL && from != REAL ? Reals.ofWhole(value) : value;
        }
    }

    /** The KINDS of the PARAMETERS and of the RESULT of a HANDLE; never changed. */
    private static final class Type {
        static final int WIDEST = 6;

        final int arity;
        final int result;
        private final int[] kinds;

        Type(int[] kinds, int result) {
            this.kinds = kinds;
            this.arity = kinds.length;
            this.result = result;
        }

        /** What place j of an ORDER tells; it has three bits for each place. */
        static int taken(int order, int j) {
            return j < 0 || j >= WIDEST ? 0 : order >> (3 * j) & 7;
        }

        /** The bits of an ORDER that matter for so many places. */
        static int kept(int order, int arity) {
            int bits = 3 * Math.min(Math.max(arity, 0), WIDEST);
            return order & ((1 << bits) - 1);
        }

        /** The ORDER of one PERMUTE that does what the inner one does behind the outer one. */
        static int joined(int outer, int inner, int arity) {
            int both = 0;
            for (int j = 0; j < arity && j < WIDEST; j++) {
                both |= taken(outer, taken(inner, j)) << (3 * j);
            }
            return both;
        }

        static boolean keepsAll(int order, int arity) {
            for (int j = 0; j < arity && j < WIDEST; j++) {
                if (taken(order, j) != j) {
                    return false;
                }
            }
            return true;
        }

        boolean has(int i) {
            return i >= 0 && i < kinds.length;
        }

        int kind(int i) {
            return i >= 0 && i < kinds.length ? kinds[i] : -1;
        }

        boolean tellsOf(int i) {
            return i == -1 || has(i);
        }

        int kindAt(int i) {
            return i == -1 ? result : kind(i);
        }

        /** How many ARGS the RESULT makes for what is given it. */
        int givenOn() {
            return result == Kinds.NOTHING ? 0 : 1;
        }

        boolean isSame(Type o) {
            return arity == o.arity && result == o.result && hasFirst(0, o);
        }

        /** Whether the PARAMETERS of o are the first ones from a place on. */
        boolean hasFirst(int from, Type o) {
            if (o.arity > arity - from) {
                return false;
            }
            for (int i = 0; i < o.arity; i++) {
                if (kind(from + i) != o.kind(i)) {
                    return false;
                }
            }
            return true;
        }

        boolean endsInLongs(int n) {
            if (n > arity) {
                return false;
            }
            for (int i = arity - n; i < arity; i++) {
                if (kind(i) != Kinds.LONG) {
                    return false;
                }
            }
            return true;
        }

        /** The type with some PARAMETERS from a place on taken out and as many of one KIND put in. */
        Type spliced(int at, int out, int in, int kind) {
            if (at < 0 || out < 0 || in < 0 || at + out > arity || arity - out + in > WIDEST) {
                return this;
            }
            int[] made = new int[arity - out + in];
            for (int i = 0; i < made.length; i++) {
                if (i < at) {
                    made[i] = kind(i);
                } else {
                    made[i] = i < at + in ? kind : kind(i - in + out);
                }
            }
            return new Type(made, result);
        }

        Type returning(int kind) {
            return new Type(kinds, kind);
        }

        /** The least RULE that a PERMUTE with n PARAMETERS would break, 0: none. */
        int brokenBy(int n, int order) {
            for (int j = 0; j < arity; j++) {
                if (taken(order, j) >= n) {
                    return 1;
                }
            }
            for (int j = 0; j < arity; j++) {
                if (kind(j) != kindTaken(taken(order, j), order)) {
                    return 2;
                }
            }
            for (int p = 0; p < n; p++) {
                if (kindTaken(p, order) < 0) {
                    return 3;
                }
            }
            return 0;
        }

        /** The KIND of the first PARAMETER that takes p, -1: none does. */
        private int kindTaken(int p, int order) {
            for (int j = 0; j < arity; j++) {
                if (taken(order, j) == p) {
                    return kind(j);
                }
            }
            return -1;
        }

        Type ordered(int n, int order) {
            if (n < 0 || n > WIDEST) {
                return this;
            }
            int[] made = new int[n];
            for (int p = 0; p < made.length; p++) {
                made[p] = kindTaken(p, order);
            }
            return new Type(made, result);
        }
    }

    /** REALS by their bits alone, so that no arithmetic of the machine ever meets what is no number. */
    private static final class Reals {
        static final long NO_NUMBER = 0x7ff8000000000000L;
        private static final long SIGN = 0x8000000000000000L;
        private static final long INFINITE = 0x7ff0000000000000L;
        private static final long HIDDEN = 0x0010000000000000L;
        private static final long MINUS_ONE = 0xbff0000000000000L;
        private static final int BIAS = 1023, PLACES = 52, GUARDS = 3;
        /** A number of nearest() with this exponent is a whole one. */
        private static final int WHOLE = BIAS + PLACES + GUARDS;

        private Reals() {
        }

        static boolean isNoNumber(long a) {
            return (a & ~SIGN) > INFINITE;
        }

        private static boolean isInfinite(long a) {
            return (a & ~SIGN) == INFINITE;
        }

        private static boolean isZero(long a) {
            return (a & ~SIGN) == 0;
        }

        private static int exponent(long a) {
            return Math.max((int) ((a & INFINITE) >>> PLACES), 1);
        }

        private static long digits(long a) {
            long low = a & (HIDDEN - 1);
            return (a & INFINITE) == 0 ? low : low | HIDDEN;
        }

        /** How many places the digits of a number that is not 0 are short of the full 53. */
        private static int lack(long digits) {
            int up = 0;
            while (up < PLACES && (digits << up & HIDDEN) == 0) {
                up++;
            }
            return up;
        }

        /** n places fewer; the last one left tells also whether any that went was not 0. */
        private static long cut(long digits, int n) {
            if (n <= 0) {
                return digits;
            }
            if (n > 62) {
                return digits == 0 ? 0 : 1;
            }
            long gone = digits & ((1L << n) - 1);
            return digits >>> n | (gone == 0 ? 0 : 1);
        }

        /** The REAL nearest to digits (not 0, without a sign) times 2 to the power exponent - WHOLE. */
        private static long nearest(long sign, int exponent, long digits) {
            long rest = digits;
            int e = exponent;
            for (int k = 0; k < 64 && rest >>> (PLACES + GUARDS) == 0; k++) {
                rest <<= 1;
                e--;
            }
            for (int k = 0; k < 64 && (e < 1 || rest >>> (PLACES + GUARDS + 1) != 0); k++) {
                rest = rest >>> 1 | rest & 1;
                e++;
            }
            // After so many places only the last one is left, wherever the exponent ended.
            e = Math.max(e, 1);
            if (e > 2 * BIAS) {
                return sign | INFINITE;
            }
            long half = rest & 7;
            long kept = rest >>> GUARDS;
            if (half > 4 || half == 4 && (kept & 1) == 1) {
                kept++;
            }
            // The hidden place counts one up in the exponent's place, as a carry out of the digits does.
            return sign | (((long) (e - 1) << PLACES) + kept);
        }

        static long ofWhole(long v) {
            if (v == 0) {
                return 0;
            }
            return nearest(v & SIGN, WHOLE, v < 0 ? -v : v);
        }

        static long sum(long a, long b) {
            if (isNoNumber(a) || isNoNumber(b)) {
                return NO_NUMBER;
            }
            if (isInfinite(a)) {
                return isInfinite(b) && a != b ? NO_NUMBER : a;
            }
            if (isInfinite(b)) {
                return b;
            }
            boolean turned = (a & ~SIGN) < (b & ~SIGN);
            long big = turned ? b : a;
            long small = turned ? a : b;
            long one = digits(big) << GUARDS;
            long two = cut(digits(small) << GUARDS, exponent(big) - exponent(small));
            long both = ((a ^ b) & SIGN) == 0 ? one + two : one - two;
            return both == 0 ? a & b & SIGN : nearest(big & SIGN, exponent(big), both);
        }

        static long product(long a, long b) {
            if (isNoNumber(a) || isNoNumber(b)) {
                return NO_NUMBER;
            }
            long sign = (a ^ b) & SIGN;
            boolean zero = isZero(a) || isZero(b);
            if (isInfinite(a) || isInfinite(b)) {
                return zero ? NO_NUMBER : sign | INFINITE;
            }
            if (zero) {
                return sign;
            }
            int upA = lack(digits(a));
            int upB = lack(digits(b));
            int e = exponent(a) - upA + exponent(b) - upB - BIAS;
            return nearest(sign, e, productCut(digits(a) << upA, digits(b) << upB));
        }

        /** The product of two numbers of 53 places without its last 49: in halves, as it has 106. */
        private static long productCut(long x, long y) {
            long half = (1L << 27) - 1;
            long highs = (x >> 27) * (y >> 27);
            long lows = (x & half) * (y & half);
            long middle = (x >> 27) * (y & half) + (x & half) * (y >> 27) + (lows >> 27);
            long gone = lows & half | middle & ((1L << 22) - 1);
            return ((highs << 5) + (middle >> 22)) | (gone == 0 ? 0 : 1);
        }

        static long quotient(long a, long b) {
            if (isNoNumber(a) || isNoNumber(b) || isInfinite(a) && isInfinite(b)
                    || isZero(a) && isZero(b)) {
                return NO_NUMBER;
            }
            long sign = (a ^ b) & SIGN;
            if (isInfinite(a) || isZero(b)) {
                return sign | INFINITE;
            }
            if (isInfinite(b) || isZero(a)) {
                return sign;
            }
            int upA = lack(digits(a));
            int upB = lack(digits(b));
            int e = exponent(a) - upA - exponent(b) + upB + BIAS;
            return nearest(sign, e, quotientCut(digits(a) << upA, digits(b) << upB));
        }

        /** x by y, times 2 to the 55, place by place. */
        private static long quotientCut(long x, long y) {
            long rest = x;
            long made = 0;
            for (int k = 0; k < PLACES + GUARDS + 1; k++) {
                made <<= 1;
                if (rest >= y) {
                    rest -= y;
                    made |= 1;
                }
                rest <<= 1;
            }
            return made | (rest == 0 ? 0 : 1);
        }

        static long minus(long a) {
            return isNoNumber(a) ? NO_NUMBER : a ^ SIGN;
        }

        static long floor(long a) {
            int e = exponent(a) - BIAS;
            if (e >= PLACES || isZero(a)) {
                return a;
            }
            if (e < 0) {
                return a < 0 ? MINUS_ONE : 0;
            }
            long broken = (1L << (PLACES - e)) - 1;
            // Adding to the digits of a number below 0 goes away from 0, and carries into the exponent.
            return (a < 0 ? a + broken : a) & ~broken;
        }

        private static long rank(long a) {
            return a < 0 ? -(a & ~SIGN) : a;
        }

        static boolean isLess(long a, long b) {
            return !isNoNumber(a) && !isNoNumber(b) && rank(a) < rank(b);
        }

        static boolean isSame(long a, long b) {
            return !isNoNumber(a) && !isNoNumber(b) && rank(a) == rank(b);
        }

        static long lesser(long a, long b) {
            if (isNoNumber(a) || isNoNumber(b)) {
                return NO_NUMBER;
            }
            if (rank(a) == rank(b)) {
                return a | b;
            }
            return rank(a) < rank(b) ? a : b;
        }

        static long greater(long a, long b) {
            if (isNoNumber(a) || isNoNumber(b)) {
                return NO_NUMBER;
            }
            if (rank(a) == rank(b)) {
                return a & b;
            }
            return rank(a) < rank(b) ? b : a;
        }
    }

    /**
     * All ROWS, each in a slot: one for each HANDLE's VALUE, each ARG, each row of THE BOARD, what came
     * of the latest call, and those made in it. A VALUE of the KIND ROW is held as its slot.
     */
    private static final class Rows {
        static final int LONGEST = 64, ON_BOARD = 8;
        static final int ARGS = Handles.MOST, BOARD = ARGS + Type.WIDEST, RESULT = BOARD + ON_BOARD;
        private static final int MADE = RESULT + 1, MOST_MADE = 200, MOST_ITEMS = 2000;

        private final long[] items = new long[MADE * LONGEST + MOST_ITEMS];
        private final int[] starts = new int[MADE + MOST_MADE];
        private final int[] lengths = new int[MADE + MOST_MADE];
        int made;
        int madeItems;

        Rows() {
            for (int slot = 0; slot < MADE; slot++) {
                starts[slot] = slot * LONGEST;
            }
        }

        static boolean isOnBoard(int k) {
            return k >= 0 && k < ON_BOARD;
        }

        int length(long slot) {
            return slot >= 0 && slot < lengths.length ? lengths[(int) slot] : 0;
        }

        /** Where an item is, -1: none such. */
        private int place(long slot, int i) {
            if (slot < 0 || slot >= lengths.length || slot >= starts.length) {
                return -1;
            }
            int at = i >= 0 && i < lengths[(int) slot] ? starts[(int) slot] + i : -1;
            return at < items.length ? at : -1;
        }

        boolean has(long slot, int i) {
            return place(slot, i) >= 0;
        }

        /** The item, 0: none such. */
        long get(long slot, int i) {
            int at = place(slot, i);
            return at < 0 ? 0 : items[at];
        }

        void set(long slot, int i, long v) {
            int at = place(slot, i);
            if (at >= 0) {
                items[at] = v;
            }
        }

        /** The row of a slot that is not for made ones has n items, all 0. */
        void reset(int slot, int n) {
            if (slot < 0 || slot >= MADE) {
                return;
            }
            lengths[slot] = Math.min(Math.max(n, 0), LONGEST);
            for (int i = 0; i < lengths[slot]; i++) {
                set(slot, i, 0);
            }
        }

        /** The row of a slot that is not for made ones becomes that of another one. */
        void copy(long from, int to) {
            if (to < 0 || to >= MADE) {
                return;
            }
            lengths[to] = Math.min(length(from), LONGEST);
            copyItems(from, 0, to);
        }

        /** All items of a row become those of another one from a place on. */
        void copyItems(long from, int first, int to) {
            for (int i = 0; i < length(to); i++) {
                int source = place(from, first + i);
                int goal = place(to, i);
                if (goal >= 0) {
                    items[goal] = source < 0 ? 0 : items[source];
                }
            }
        }

        /** What a VALUE told by bits is held as: a ROW is taken from THE BOARD into a slot. */
        long captured(int kind, long bits, int slot) {
            if (kind != Kinds.ROW) {
                return bits;
            }
            copy(BOARD + bits, slot);
            return slot;
        }

        /** What is told of a VALUE that came: of a ROW how many items. */
        long bitsOf(int kind, long value) {
            return kind == Kinds.ROW ? length(value) : value;
        }

        long[] itemsOf(long slot) {
            long[] all = new long[length(slot)];
            for (int i = 0; i < all.length; i++) {
                all[i] = get(slot, i);
            }
            return all;
        }

        void forgetMade() {
            made = 0;
            madeItems = 0;
        }

        /** The slot of a new row of n items, -1: there is no room for it. */
        int make(int n) {
            int slot = MADE + made;
            if (n < 0 || made >= MOST_MADE || madeItems + n > MOST_ITEMS || slot >= starts.length
                    || slot >= lengths.length) {
                return -1;
            }
            starts[slot] = MADE * LONGEST + madeItems;
            lengths[slot] = n;
            made++;
            madeItems += n;
            return slot;
        }

        long sum(long slot) {
            long all = 0;
            for (int i = 0; i < length(slot); i++) {
                all += get(slot, i);
            }
            return all;
        }

        int firstPlace(long slot, long v) {
            for (int i = 0; i < length(slot); i++) {
                if (get(slot, i) == v) {
                    return i;
                }
            }
            return -1;
        }
    }

    /** The listed FUNCTIONS, with THE COUNT and THE NOTE. */
    private static final class Functions {
        private static final int MOST = 54;

        private final Rows rows;
        long came;
        long count;
        long note;

        Functions(Rows rows) {
            this.rows = rows;
        }

        static boolean isListed(int f) {
            return f >= 0 && f < MOST;
        }

        static Type typeOf(int f) {
            String signs = signsOf(f);
            int n = Math.max(signs.indexOf('-'), 0);
            int[] kinds = new int[n];
            for (int i = 0; i < n && i < signs.length(); i++) {
                kinds[i] = Kinds.SIGNS.indexOf(signs.charAt(i));
            }
            int last = signs.length() - 1;
            return new Type(kinds, last < 0 ? Kinds.NOTHING : Kinds.SIGNS.indexOf(signs.charAt(last)));
        }

        private static String signsOf(int f) {
            switch (f) {
                case 0: case 1: case 2: case 3: case 4: case 5: case 6:
                    return "ii-i";
                case 7: case 8:
                    return "i-i";
                case 9: case 10: case 11: case 12: case 13: case 14:
                    return "ll-l";
                case 15:
                    return "l-l";
                case 16: case 17: case 18: case 19: case 20: case 21:
                    return "rr-r";
                case 22: case 23:
                    return "r-r";
                case 24: case 27:
                    return "ii-t";
                case 25: case 28:
                    return "ll-t";
                case 26: case 29:
                    return "rr-t";
                case 30: case 31:
                    return "ww-t";
                case 32:
                    return "t-t";
                case 33: case 34:
                    return "tt-t";
                case 35:
                    return "tii-i";
                case 36:
                    return "tll-l";
                case 37:
                    return "tww-w";
                case 38:
                    return "too-o";
                default:
                    return otherSignsOf(f);
            }
        }

        private static String otherSignsOf(int f) {
            switch (f) {
                case 39:
                    return "o-i";
                case 40:
                    return "oi-l";
                case 41:
                    return "o-l";
                case 42:
                    return "oii-o";
                case 43:
                    return "ol-i";
                case 44:
                    return "oil-o";
                case 45:
                    return "ww-w";
                case 46:
                    return "wi-w";
                case 47:
                    return "wi-i";
                case 48:
                    return "w-i";
                case 49: case 51:
                    return "-l";
                case 50:
                    return "l-n";
                case 52:
                    return "t-i";
                default:
                    return "-n";
            }
        }

        static boolean isQuiet(int f) {
            switch (f) {
                case 3: case 4: case 8: case 12: case 13: case 40: case 42:
                case 44: case 45: case 46: case 47: case 49: case 50: case 51:
                    return false;
                default:
                    return true;
            }
        }

        /** The failure that the FUNCTION ends with; 0: its RESULT is in came. */
        int run(int f, long a, long b, long c) {
            if (f <= 8) {
                return runInts(f, (int) a, (int) b);
            }
            if (f <= 15) {
                return runLongs(f, a, b);
            }
            if (f <= 23) {
                return give(ofReals(f, a, b));
            }
            if (f <= 31) {
                return give(compared(f, a, b) ? 1 : 0);
            }
            if (f <= 38) {
                return give(chosen(f, a, b, c));
            }
            if (f <= 44) {
                return runRows(f, a, b, c);
            }
            if (f <= 48) {
                return runWords(f, a, b);
            }
            return give(ofState(f, a));
        }

        private int give(long value) {
            came = value;
            return 0;
        }

        private int runInts(int f, int a, int b) {
            switch (f) {
                case 0:
                    return give(a + b);
                case 1:
                    return give(a - b);
                case 2:
                    return give(a * b);
                case 3:
                    return b == 0 ? Failures.ZERO : give(a / b);
                case 4:
                    return b == 0 ? Failures.ZERO : give(a % b);
                case 5:
                    return give(a & b);
                case 6:
                    return give(a ^ b);
                case 7:
                    return give(-a);
                default:
                    return a != 0 ? Failures.OWN : give(a);
            }
        }

        private int runLongs(int f, long a, long b) {
            switch (f) {
                case 9:
                    return give(a + b);
                case 10:
                    return give(a - b);
                case 11:
                    return give(a * b);
                case 12:
                    return b == 0 ? Failures.ZERO : give(a / b);
                case 13:
                    return b == 0 ? Failures.ZERO : give(a % b);
                case 14:
                    return give(a ^ b);
                default:
                    return give(-a);
            }
        }

        private static long ofReals(int f, long a, long b) {
            switch (f) {
                case 16:
                    return Reals.sum(a, b);
                case 17:
                    return Reals.sum(a, Reals.minus(b));
                case 18:
                    return Reals.product(a, b);
                case 19:
                    return Reals.quotient(a, b);
                case 20:
                    return Reals.lesser(a, b);
                case 21:
                    return Reals.greater(a, b);
                case 22:
                    return Reals.floor(a);
                default:
                    return Reals.minus(a);
            }
        }

        private static boolean compared(int f, long a, long b) {
            switch (f) {
                case 24: case 25:
                    return a < b;
                case 26:
                    return Reals.isLess(a, b);
                case 29:
                    return Reals.isSame(a, b);
                case 31:
                    return leftmost(a) < leftmost(b);
                default:
                    return a == b;
            }
        }

        /** The letters of a WORD moved to the first places, so that WORDS compare as numbers do. */
        private static long leftmost(long word) {
            return word << 5 * (Kinds.LETTERS - Math.max(Kinds.letters(word), 0));
        }

        private static long chosen(int f, long a, long b, long c) {
            switch (f) {
                case 32:
                    return 1 - a;
                case 33:
                    return a & b;
                case 34:
                    return a | b;
                default:
                    return a == 1 ? b : c;
            }
        }

        private int runRows(int f, long row, long b, long c) {
            switch (f) {
                case 39:
                    return give(rows.length(row));
                case 40:
                    return rows.has(row, (int) b) ? give(rows.get(row, (int) b)) : Failures.BOUNDS;
                case 41:
                    return give(rows.sum(row));
                case 42:
                    return part(row, (int) b, (int) c);
                case 43:
                    return give(rows.firstPlace(row, b));
                default:
                    return changed(row, (int) b, c);
            }
        }

        private int part(long row, int from, int to) {
            if (from < 0 || from > to || to > rows.length(row)) {
                return Failures.BOUNDS;
            }
            int slot = rows.make(to - from);
            if (slot < 0) {
                return Failures.ROOM;
            }
            rows.copyItems(row, from, slot);
            return give(slot);
        }

        private int changed(long row, int i, long v) {
            if (!rows.has(row, i)) {
                return Failures.BOUNDS;
            }
            int slot = rows.make(rows.length(row));
            if (slot < 0) {
                return Failures.ROOM;
            }
            rows.copyItems(row, 0, slot);
            rows.set(slot, i, v);
            return give(slot);
        }

        private int runWords(int f, long word, long b) {
            int n = Kinds.letters(word);
            switch (f) {
                case 45:
                    int more = Kinds.letters(b);
                    return n + more > Kinds.LETTERS ? Failures.LENGTH : give(word << 5 * more | b);
                case 46:
                    return b < 0 || b > n ? Failures.BOUNDS : give(word >> 5 * (n - (int) b));
                case 47:
                    return b < 0 || b >= n ? Failures.BOUNDS : give(word >> 5 * (n - 1 - (int) b) & 31);
                default:
                    return give(n);
            }
        }

        private long ofState(int f, long a) {
            switch (f) {
                case 49:
                    count++;
                    return count;
                case 50:
                    note = a;
                    return 0;
                case 51:
                    return note;
                case 52:
                    return a;
                default:
                    return 0;
            }
        }
    }

    /** A HANDLE. Only the target of a SITE, how often it was changed, and the pin change. */
    private static final class Handle {
        static final int FUNCTION = 0, CONSTANT = 1, BIND = 2, DROP = 3, PERMUTE = 4, FILTER = 5, AFTER = 6,
                FOLD = 7, GUARD = 8, SPREAD = 9, COLLECT = 10, WIDEN = 11, LOOP = 12, CATCH = 13,
                ENSURE = 14, SITE = 15;

        final int sort;
        final Type type;
        Handle target;
        final Handle other;
        Handle third;
        /** FUNCTION, place, ORDER, NUMBER, KIND of failure, or how often it was changed: by the sort. */
        int detail;
        long value;
        int number;
        boolean pinned;
        Form form;

        Handle(int sort, Type type, Handle target, Handle other, int detail) {
            this.sort = sort;
            this.type = type;
            this.target = target;
            this.other = other;
            this.detail = detail;
        }

        /** The KIND of its own VALUE, NOTHING: it has none. */
        int valueKind() {
            if (sort == CONSTANT) {
                return type.result;
            }
            return sort == BIND && target != null ? target.type.kind(detail) : Kinds.NOTHING;
        }

        int fact(int what) {
            switch (what) {
                case 0:
                    return sort;
                case 1:
                    return numberOf(target);
                case 2:
                    return numberOf(other);
                case 3:
                    return numberOf(third);
                default:
                    return detail;
            }
        }

        private static int numberOf(Handle h) {
            return h == null ? NONE : h.number;
        }
    }

    /** The HANDLES by their numbers, and what they REACH. */
    private static final class Handles {
        static final int MOST = 120;

        private final Handle[] all = new Handle[MOST];
        private final Rows rows;
        private final boolean[] marked = new boolean[MOST];
        private final Handle[] waiting = new Handle[MOST];
        private int waitingCount;
        int count;

        Handles(Rows rows) {
            this.rows = rows;
        }

        Handle at(int h) {
            return h >= 0 && h < all.length ? all[h] : null;
        }

        boolean isFull() {
            return count >= MOST;
        }

        /** Gives it the least free number; its form is made last, as it needs the VALUE. */
        void add(Handle made) {
            int h = 0;
            while (h < MOST && at(h) != null) {
                h++;
            }
            if (h >= all.length) {
                return;
            }
            made.number = h;
            made.value = rows.captured(made.valueKind(), made.value, h);
            made.form = shared(Form.of(made, rows));
            all[h] = made;
            count++;
        }

        /**
         * The form of a HANDLE that is here already, if it is the same: so two are ALIKE just if they
         * have one form. All that stand in a form are forms of HANDLES that its own one reaches.
         */
        private Form shared(Form made) {
            for (int h = 0; h < all.length; h++) {
                Form had = all[h] == null ? null : all[h].form;
                if (had != null && had.isSame(made)) {
                    return had;
                }
            }
            return made;
        }

        int pinnedCount() {
            int n = 0;
            for (int h = 0; h < all.length; h++) {
                if (all[h] != null && all[h].pinned) {
                    n++;
                }
            }
            return n;
        }

        boolean isReached(Handle from, Handle to) {
            clearMarks();
            markParts(from);
            markReached();
            return isMarked(to.number);
        }

        private boolean isMarked(int h) {
            return h >= 0 && h < marked.length && marked[h];
        }

        /** Takes away all that are not pinned, nor reached by pinned ones: how many. */
        int removeUnheld() {
            clearMarks();
            for (int h = 0; h < all.length; h++) {
                if (all[h] != null && all[h].pinned) {
                    mark(all[h]);
                }
            }
            markReached();
            int had = count;
            for (int h = 0; h < all.length; h++) {
                if (all[h] != null && !isMarked(h)) {
                    all[h] = null;
                    count--;
                }
            }
            return had - count;
        }

        private void clearMarks() {
            waitingCount = 0;
            for (int h = 0; h < marked.length; h++) {
                marked[h] = false;
            }
        }

        private void mark(Handle h) {
            if (h == null || h.number < 0 || h.number >= marked.length || marked[h.number]
                    || waitingCount >= waiting.length) {
                return;
            }
            marked[h.number] = true;
            waiting[waitingCount] = h;
            waitingCount++;
        }

        private void markParts(Handle h) {
            if (h != null) {
                mark(h.target);
                mark(h.other);
                mark(h.third);
            }
        }

        private void markReached() {
            for (int k = 0; k < waiting.length && k < waitingCount; k++) {
                markParts(waiting[k]);
            }
        }
    }

    /** A PLAIN FORM. The forms in it are shared ones, so they are the same just if they are one. */
    private static final class Form {
        private final int sort;
        private final int detail;
        private final Type type;
        private final Form target;
        private final Form other;
        private final Form third;
        /** Its VALUE, of a ROW its items; a slot of Rows may be used again while the form still stands. */
        private long bits;
        private long[] items;
        final boolean isQuiet;

        private Form(Handle h, int detail, Form target, Form other, Form third) {
            this.sort = h.sort;
            this.type = h.type;
            this.detail = detail;
            this.target = target;
            this.other = other;
            this.third = third;
            this.isQuiet = isQuietSort(h.sort, detail) && isQuietPart(target) && isQuietPart(other)
                    && isQuietPart(third);
        }

        private static Form formOf(Handle h) {
            return h == null ? null : h.form;
        }

        /** The PLAIN FORM of a HANDLE whose parts have theirs. */
        static Form of(Handle h, Rows rows) {
            Form target = formOf(h.target);
            Form other = formOf(h.other);
            Form third = formOf(h.third);
            if (h.sort == Handle.PERMUTE && target != null) {
                return ofPermute(h, target);
            }
            if (h.sort == Handle.BIND && target != null && target.sort == Handle.DROP
                    && target.detail == h.detail) {
                return target.target;
            }
            if (h.sort == Handle.GUARD && target == third && isQuietPart(other)) {
                return target;
            }
            Form made = new Form(h, h.detail, target, other, third);
            if (h.valueKind() == Kinds.ROW) {
                made.items = rows.itemsOf(h.value);
            } else {
                made.bits = h.value;
            }
            return made;
        }

        private static Form ofPermute(Handle h, Form target) {
            Form base = target;
            int order = h.detail;
            if (target.sort == Handle.PERMUTE && target.target != null) {
                base = target.target;
                order = Type.joined(h.detail, target.detail, base.type.arity);
            }
            if (base.type.arity == h.type.arity && Type.keepsAll(order, base.type.arity)) {
                return base;
            }
            return new Form(h, order, base, null, null);
        }

        private static boolean isQuietPart(Form f) {
            return f == null || f.isQuiet;
        }

        private static boolean isQuietSort(int sort, int detail) {
            if (sort == Handle.FUNCTION) {
                return Functions.isQuiet(detail);
            }
            return sort <= Handle.GUARD || sort == Handle.WIDEN;
        }

        boolean isSame(Form o) {
            return sort == o.sort && sort != Handle.SITE && detail == o.detail && type.isSame(o.type)
                    && target == o.target && other == o.other && third == o.third
                    && bits == o.bits && hasSameItems(o.items);
        }

        private boolean hasSameItems(long[] o) {
            if (items == null || o == null) {
                return items == null && o == null;
            }
            if (items.length != o.length) {
                return false;
            }
            for (int i = 0; i < items.length; i++) {
                if (items[i] != o[i]) {
                    return false;
                }
            }
            return true;
        }
    }

    /** THE TRACE: the first FUNCTIONS begun, and how many there were. */
    private static final class Trace {
        private static final int MOST = 200, WIDEST = 3;

        private final int[] handles = new int[MOST];
        private final int[] functions = new int[MOST];
        private final int[] arities = new int[MOST];
        private final long[] args = new long[MOST * WIDEST];
        int begun;

        int kept() {
            return Math.min(begun, MOST);
        }

        /** Whether the one begun is kept, so that its ARGS are to be told. */
        boolean begin(Handle h) {
            int k = begun;
            begun++;
            if (k < 0 || k >= MOST) {
                return false;
            }
            handles[k] = h.number;
            functions[k] = h.detail;
            arities[k] = h.type.arity;
            return true;
        }

        /** ARG i of the one begun last. */
        void tellArg(int i, long bits) {
            int k = begun - 1;
            if (k >= 0 && k < MOST && i >= 0 && i < WIDEST) {
                args[k * WIDEST + i] = bits;
            }
        }

        long at(int k, int what) {
            if (k < 0 || k >= kept()) {
                return 0;
            }
            switch (what) {
                case 0:
                    return handles[k];
                case 1:
                    return functions[k];
                case 2:
                    return arities[k];
                default:
                    return argAt(k, what - 3);
            }
        }

        private long argAt(int k, int i) {
            return i >= 0 && i < WIDEST && i < arities[k] ? args[k * WIDEST + i] : 0;
        }
    }

    /**
     * The FAILURES of a call, each with its PATH: an ENSURE may have to tell one after others arose.
     * The last place is for the one that ends the call.
     */
    private static final class Failures {
        static final int ZERO = 1, BOUNDS = 2, LENGTH = 3, DEPTH = 4, ROUNDS = 5, OWN = 6, ROOM = 7;
        private static final int MOST = 20, LONGEST = Machine.DEEPEST + 1;

        private final int[] kinds = new int[MOST + 1];
        private final int[] lengths = new int[MOST + 1];
        private final int[] ways = new int[(MOST + 1) * LONGEST];
        int count;

        static boolean canBeCaught(int kind) {
            return kind == ZERO || kind == BOUNDS || kind == LENGTH || kind == OWN;
        }

        /** Keeps a failure at the innermost of the open ones: its number. */
        int add(int kind, int[] open, int depth) {
            int told = canBeCaught(kind) && count >= MOST ? ROUNDS : kind;
            int n = MOST;
            if (canBeCaught(told)) {
                n = Math.min(Math.max(count, 0), MOST);
                count++;
            }
            kinds[n] = told;
            lengths[n] = Math.min(Math.min(depth + 1, LONGEST), open.length);
            for (int k = 0; k < lengths[n]; k++) {
                ways[n * LONGEST + k] = open[lengths[n] - 1 - k];
            }
            return n;
        }

        int kind(int n) {
            return n >= 0 && n < kinds.length ? kinds[n] : 0;
        }

        int wayLength(int n) {
            return n >= 0 && n < lengths.length ? lengths[n] : 0;
        }

        int wayAt(int n, int k) {
            return k >= 0 && k < wayLength(n) ? ways[n * LONGEST + k] : NONE;
        }
    }

    /** EVAL, and what is told of the latest call. */
    private static final class Machine {
        static final int DEEPEST = 100;
        private static final int MOST_STEPS = 20000, MOST_ROUNDS = 1000, NO_FAILURE = -1;

        private final Rows rows;
        private final Functions functions;
        final Trace trace = new Trace();
        private final Failures failures = new Failures();
        /** The ARGS of each open EVAL, six places for each depth. */
        private final long[] args = new long[(DEEPEST + 1) * Type.WIDEST];
        private final int[] open = new int[DEEPEST + 1];
        private int steps;
        private long came;
        private int failed = NO_FAILURE;
        int how = NONE;
        long result;

        Machine(Rows rows) {
            this.rows = rows;
            this.functions = new Functions(rows);
        }

        int run(Handle h, long[] given) {
            steps = 0;
            came = 0;
            failed = NO_FAILURE;
            failures.count = 0;
            trace.begun = 0;
            rows.forgetMade();
            for (int i = 0; i < h.type.arity && i < given.length; i++) {
                pass(0, i, given[i]);
            }
            boolean ended = eval(h, 0);
            int kind = ended ? h.type.result : Kinds.NOTHING;
            how = ended ? 0 : failures.kind(failed);
            result = kind == Kinds.NOTHING ? 0 : rows.bitsOf(kind, came);
            keepRow(kind);
            if (ended) {
                failed = NO_FAILURE;
            }
            return how;
        }

        private void keepRow(int kind) {
            if (kind == Kinds.ROW) {
                rows.copy(came, Rows.RESULT);
            } else {
                rows.reset(Rows.RESULT, 0);
            }
        }

        int wayLength() {
            return failures.wayLength(failed);
        }

        int wayAt(int k) {
            return failures.wayAt(failed, k);
        }

        long used(int what) {
            switch (what) {
                case 0:
                    return steps;
                case 1:
                    return trace.begun;
                case 2:
                    return rows.made;
                case 3:
                    return rows.madeItems;
                case 4:
                    return failures.count;
                case 5:
                    return functions.count;
                case 6:
                    return functions.note;
                default:
                    return 0;
            }
        }

        private boolean fail(int kind, int d) {
            failed = failures.add(kind, open, d);
            return false;
        }

        private long given(int d, int i) {
            int at = d * Type.WIDEST + i;
            return i >= 0 && i < Type.WIDEST && at >= 0 && at < args.length ? args[at] : 0;
        }

        private void pass(int d, int i, long value) {
            int at = d * Type.WIDEST + i;
            if (i >= 0 && i < Type.WIDEST && at >= 0 && at < args.length) {
                args[at] = value;
            }
        }

        /** Hands n ARGS on, from a place here to a place one deeper. */
        private void hand(int d, int from, int to, int n) {
            for (int i = 0; i < n; i++) {
                pass(d + 1, to + i, given(d, from + i));
            }
        }

        /** Hands as many ARGS on as a part takes, from a place on. */
        private void handTo(Handle part, int d, int from) {
            hand(d, from, 0, part == null ? 0 : part.type.arity);
        }

        /** Whether something came, then in came; else its failure is in failed. */
        private boolean eval(Handle h, int d) {
            if (h == null || d < 0 || d >= open.length) {
                return false;
            }
            open[d] = h.number;
            if (steps >= MOST_STEPS) {
                return fail(Failures.ROUNDS, d);
            }
            if (d >= DEEPEST) {
                return fail(Failures.DEPTH, d);
            }
            steps++;
            switch (h.sort) {
                case Handle.FUNCTION:
                    tellBegun(h, d);
                    return ended(functions.run(h.detail, given(d, 0), given(d, 1), given(d, 2)), d);
                case Handle.CONSTANT:
                    came = h.value;
                    return true;
                case Handle.BIND:
                    return evalBind(h, d);
                case Handle.DROP:
                    return evalDrop(h, d);
                case Handle.PERMUTE:
                    return evalPermute(h, d);
                case Handle.FILTER:
                    return evalFilter(h, d);
                case Handle.AFTER:
                    return evalAfter(h, d);
                case Handle.FOLD:
                    return evalFold(h, d);
                case Handle.GUARD:
                    return evalGuard(h, d);
                case Handle.SPREAD:
                    return evalSpread(h, d);
                case Handle.COLLECT:
                    return evalCollect(h, d);
                case Handle.WIDEN:
                    return evalWiden(h, d);
                case Handle.LOOP:
                    return evalLoop(h, d);
                case Handle.CATCH:
                    return evalCatch(h, d);
                case Handle.ENSURE:
                    return evalEnsure(h, d);
                default:
                    handTo(h.target, d, 0);
                    return eval(h.target, d + 1);
            }
        }

        private void tellBegun(Handle h, int d) {
            if (trace.begin(h)) {
                for (int i = 0; i < h.type.arity; i++) {
                    trace.tellArg(i, rows.bitsOf(h.type.kind(i), given(d, i)));
                }
            }
        }

        /** How a FUNCTION ended. */
        private boolean ended(int failure, int d) {
            if (failure != 0) {
                return fail(failure, d);
            }
            came = functions.came;
            return true;
        }

        private boolean evalBind(Handle h, int d) {
            hand(d, 0, 0, h.detail);
            pass(d + 1, h.detail, h.value);
            hand(d, h.detail, h.detail + 1, h.type.arity - h.detail);
            return eval(h.target, d + 1);
        }

        private boolean evalDrop(Handle h, int d) {
            hand(d, 0, 0, h.detail);
            hand(d, h.detail + 1, h.detail, h.type.arity - h.detail - 1);
            return eval(h.target, d + 1);
        }

        private boolean evalPermute(Handle h, int d) {
            for (int j = 0; h.target != null && j < h.target.type.arity; j++) {
                pass(d + 1, j, given(d, Type.taken(h.detail, j)));
            }
            return eval(h.target, d + 1);
        }

        private boolean evalFilter(Handle h, int d) {
            pass(d + 1, 0, given(d, h.detail));
            if (!eval(h.other, d + 1)) {
                return false;
            }
            handTo(h.target, d, 0);
            pass(d + 1, h.detail, came);
            return eval(h.target, d + 1);
        }

        private boolean evalAfter(Handle h, int d) {
            handTo(h.target, d, 0);
            if (!eval(h.target, d + 1)) {
                return false;
            }
            pass(d + 1, 0, came);
            return eval(h.other, d + 1);
        }

        private boolean evalFold(Handle h, int d) {
            handTo(h.other, d, 0);
            if (h.other == null || !eval(h.other, d + 1)) {
                return false;
            }
            int ahead = h.other.type.givenOn();
            hand(d, 0, ahead, h.type.arity);
            if (ahead == 1) {
                pass(d + 1, 0, came);
            }
            return eval(h.target, d + 1);
        }

        private boolean evalGuard(Handle h, int d) {
            handTo(h.other, d, 0);
            if (!eval(h.other, d + 1)) {
                return false;
            }
            Handle branch = came == 1 ? h.target : h.third;
            handTo(branch, d, 0);
            return eval(branch, d + 1);
        }

        private boolean evalSpread(Handle h, int d) {
            int last = h.type.arity - 1;
            long row = given(d, last);
            if (rows.length(row) != h.detail) {
                return fail(Failures.BOUNDS, d);
            }
            hand(d, 0, 0, last);
            for (int i = 0; i < h.detail; i++) {
                pass(d + 1, last + i, rows.get(row, i));
            }
            return eval(h.target, d + 1);
        }

        private boolean evalCollect(Handle h, int d) {
            int slot = rows.make(h.detail);
            if (slot < 0) {
                return fail(Failures.ROOM, d);
            }
            int first = h.type.arity - h.detail;
            for (int i = 0; i < h.detail; i++) {
                rows.set(slot, i, given(d, first + i));
            }
            hand(d, 0, 0, first);
            pass(d + 1, first, slot);
            return eval(h.target, d + 1);
        }

        private boolean evalWiden(Handle h, int d) {
            if (h.target == null) {
                return false;
            }
            handTo(h.target, d, 0);
            int i = h.detail;
            if (i >= 0) {
                pass(d + 1, i, Kinds.widened(h.type.kind(i), h.target.type.kind(i), given(d, i)));
            }
            if (!eval(h.target, d + 1)) {
                return false;
            }
            came = Kinds.widened(h.target.type.result, h.type.result, came);
            return true;
        }

        private boolean evalLoop(Handle h, int d) {
            handTo(h.other, d, 1);
            if (!eval(h.other, d + 1)) {
                return false;
            }
            long rounds = came;
            long v = given(d, 0);
            for (int round = 0; round < rounds; round++) {
                if (round >= MOST_ROUNDS) {
                    return fail(Failures.ROUNDS, d);
                }
                pass(d + 1, 0, v);
                pass(d + 1, 1, round);
                hand(d, 1, 2, h.type.arity - 1);
                if (!eval(h.target, d + 1)) {
                    return false;
                }
                v = came;
            }
            came = v;
            return true;
        }

        private boolean evalCatch(Handle h, int d) {
            handTo(h.target, d, 0);
            if (eval(h.target, d + 1)) {
                return true;
            }
            if (failures.kind(failed) != h.detail) {
                return false;
            }
            handTo(h.other, d, 0);
            return eval(h.other, d + 1);
        }

        private boolean evalEnsure(Handle h, int d) {
            handTo(h.target, d, 0);
            boolean ended = eval(h.target, d + 1);
            int failure = failed;
            long value = came;
            if (!ended && !Failures.canBeCaught(failures.kind(failure))) {
                return false;
            }
            handTo(h.other, d, 0);
            if (!eval(h.other, d + 1)) {
                return false;
            }
            failed = failure;
            came = value;
            return ended;
        }
    }
}
