import java.util.ArrayDeque;
import java.util.ArrayList;
import java.util.Arrays;
import java.util.Collections;
import java.util.Deque;
import java.util.HashMap;
import java.util.HashSet;
import java.util.List;
import java.util.Map;
import java.util.Set;
import java.util.TreeMap;

/**
 * The document once more, with the Java library, objects for values and exceptions for failures: what the
 * class answers is compared with it. It is written apart from the class, and not for speed.
 */
final class Model {
    static final int BAD = -1, UNKNOWN = -2, FULL = -3, TYPE = -4, NO = -5, NONE = -6;
    static final String[] TYPES = ("ii-i ii-i ii-i ii-i ii-i ii-i ii-i i-i i-i ll-l ll-l ll-l ll-l ll-l ll-l l-l "
            + "rr-r rr-r rr-r rr-r rr-r rr-r r-r r-r ii-t ll-t rr-t ii-t ll-t rr-t ww-t ww-t t-t tt-t tt-t tii-i "
            + "tll-l tww-w too-o o-i oi-l o-l oii-o ol-i oil-o ww-w wi-w wi-i w-i -l l-n -l t-i -n").split(" ");
    private static final Set<Integer> LOUD = Set.of(3, 4, 8, 12, 13, 40, 42, 44, 45, 46, 47, 49, 50, 51);
    private static final Set<Integer> SOFT = Set.of(1, 2, 3, 6);
    private static final long NO_NUMBER = 0x7ff8000000000000L;

    /** A refused call. */
    static final class Refused extends Exception {
        private static final long serialVersionUID = 1;
        final int code;
        final int rule;

        Refused(int code, int rule) {
            super(null, null, false, false);
            this.code = code;
            this.rule = rule;
        }
    }

    /** A failure on its way. */
    private static final class Failed extends Exception {
        private static final long serialVersionUID = 1;
        final int kind;
        final transient List<Integer> path;

        Failed(int kind, List<Integer> path) {
            super(null, null, false, false);
            this.kind = kind;
            this.path = path;
        }
    }

    static final class H {
        int num;
        int sort;
        List<Integer> params;
        int result;
        H target;
        H other;
        H third;
        int detail;
        int valueKind = -1;
        Object value;
        boolean pinned;
    }

    private record Seen(int num, int f, List<Integer> kinds, List<Object> args) {
    }

    private record Plain(int sort, int detail, List<Integer> kinds, Object value, int t, int o, int th, H site) {
    }

    final TreeMap<Integer, H> all = new TreeMap<>();
    final List<List<Long>> board = new ArrayList<>();
    final List<Integer> argKinds = new ArrayList<>();
    final List<Object> args = new ArrayList<>();
    int status;
    int rule;
    private int how = NONE;
    private int cameKind = 6;
    private Object came;
    private List<Integer> way = List.of();
    private final List<Seen> trace = new ArrayList<>();
    private int steps;
    private int rows;
    private int items;
    private int failures;
    private long count;
    private long note;
    private final Deque<Integer> open = new ArrayDeque<>();

    Model() {
        for (int k = 0; k < 8; k++) {
            board.add(new ArrayList<>());
        }
    }

    // ---- values

    private Object value(int kind, long bits) throws Refused {
        switch (kind) {
            case 0:
                if (bits >= Integer.MIN_VALUE && bits <= Integer.MAX_VALUE) {
                    return (int) bits;
                }
                break;
            case 1:
                return bits;
            case 2:
                double d = Double.longBitsToDouble(bits);
                if (!Double.isNaN(d) || bits == NO_NUMBER) {
                    return d;
                }
                break;
            case 3:
                if (bits == 0 || bits == 1) {
                    return bits == 1;
                }
                break;
            case 4:
                String w = word(bits);
                if (w != null) {
                    return w;
                }
                break;
            case 5:
                if (bits >= 0 && bits <= 7) {
                    return List.copyOf(board.get((int) bits));
                }
                break;
            default:
        }
        throw new Refused(BAD, 0);
    }

    private static String word(long bits) {
        String w = "";
        for (int k = 11; k >= 0; k--) {
            int letter = (int) (bits >> 5 * k) & 31;
            if (letter > 26 || letter == 0 && !w.isEmpty() || letter != 0 && k > 7) {
                return null;
            }
            w += letter == 0 ? "" : (char) ('a' + letter - 1);
        }
        return bits >>> 40 == 0 ? w : null;
    }

    private static long told(Object v) {
        if (v instanceof Integer i) {
            return i;
        }
        if (v instanceof Long l) {
            return l;
        }
        if (v instanceof Double d) {
            return Double.doubleToLongBits(d);
        }
        if (v instanceof Boolean t) {
            return t ? 1 : 0;
        }
        if (v instanceof String w) {
            long bits = 0;
            for (int i = 0; i < w.length(); i++) {
                bits = bits * 32 + w.charAt(i) - 'a' + 1;
            }
            return bits;
        }
        return v instanceof List<?> row ? row.size() : 0;
    }

    // ---- handles

    private H at(long h) throws Refused {
        H found = all.get((int) h);
        if (found == null) {
            throw new Refused(UNKNOWN, 0);
        }
        return found;
    }

    private static void bad(boolean so) throws Refused {
        if (so) {
            throw new Refused(BAD, 0);
        }
    }

    private void full() throws Refused {
        if (all.size() >= 120) {
            throw new Refused(FULL, 0);
        }
    }

    private static void rule(int number, boolean broken) throws Refused {
        if (broken) {
            throw new Refused(TYPE, number);
        }
    }

    private static boolean first(List<Integer> few, List<Integer> many) {
        return few.size() <= many.size() && many.subList(0, few.size()).equals(few);
    }

    private static boolean widens(int from, int to) {
        return from == to && from != 6 || from == 0 && (to == 1 || to == 2) || from == 1 && to == 2;
    }

    private static H like(int sort, H target, H other, int detail) {
        H h = new H();
        h.sort = sort;
        h.target = target;
        h.other = other;
        h.detail = detail;
        h.params = new ArrayList<>(target == null ? List.of() : target.params);
        h.result = target == null ? 6 : target.result;
        return h;
    }

    /** What a call that makes a HANDLE would make; it is not listed yet. */
    H build(String name, long[] a) throws Refused {
        switch (name) {
            case "leaf":
                return leaf(a[0]);
            case "constant":
                return constant((int) a[0], a[1]);
            case "bind":
                return bind(at(a[0]), (int) a[1], a[2]);
            case "drop":
                return drop(at(a[0]), (int) a[1], (int) a[2]);
            case "permute":
                return permute(at(a[0]), (int) a[1], (int) a[2]);
            case "filter":
                return filter(at(a[0]), (int) a[1], at(a[2]));
            case "after":
                return after(at(a[0]), at(a[1]));
            case "fold":
                return fold(at(a[0]), at(a[1]));
            case "guard":
                return guard(at(a[0]), at(a[1]), at(a[2]));
            case "spread":
                return spread(at(a[0]), (int) a[1]);
            case "collect":
                return collect(at(a[0]), (int) a[1]);
            case "widen":
                return widen(at(a[0]), (int) a[1], (int) a[2]);
            case "loop":
                return loop(at(a[0]), at(a[1]));
            case "caught":
                return caught(at(a[0]), (int) a[1], at(a[2]));
            case "ensure":
                return ensure(at(a[0]), at(a[1]));
            default:
                H h = at(a[0]);
                full();
                return like(15, h, null, 0);
        }
    }

    private H leaf(long f) throws Refused {
        bad(f < 0 || f > 53);
        full();
        H h = like(0, null, null, (int) f);
        String t = TYPES[(int) f];
        for (int i = 0; t.charAt(i) != '-'; i++) {
            h.params.add("ilrtwon".indexOf(t.charAt(i)));
        }
        h.result = "ilrtwon".indexOf(t.charAt(t.length() - 1));
        return h;
    }

    private H constant(int kind, long bits) throws Refused {
        H h = like(1, null, null, 0);
        h.value = value(kind, bits);
        h.valueKind = kind;
        h.result = kind;
        full();
        return h;
    }

    private H bind(H t, int i, long bits) throws Refused {
        bad(i < 0 || i >= t.params.size());
        H h = like(2, t, null, i);
        h.valueKind = h.params.remove(i);
        h.value = value(h.valueKind, bits);
        full();
        return h;
    }

    private H drop(H t, int i, int kind) throws Refused {
        bad(i < 0 || i > t.params.size() || kind < 0 || kind > 5);
        full();
        rule(1, t.params.size() == 6);
        H h = like(3, t, null, i);
        h.params.add(i, kind);
        return h;
    }

    private H permute(H t, int n, int order) throws Refused {
        bad(n < 0 || n > 6);
        full();
        int m = t.params.size();
        List<Set<Integer>> kinds = new ArrayList<>();
        for (int p = 0; p < 8; p++) {
            kinds.add(new HashSet<>());
        }
        boolean beyond = false;
        for (int j = 0; j < m; j++) {
            int p = order >> 3 * j & 7;
            beyond |= p >= n;
            kinds.get(p).add(t.params.get(j));
        }
        rule(1, beyond);
        rule(2, kinds.stream().anyMatch(k -> k.size() > 1));
        rule(3, kinds.subList(0, n).stream().anyMatch(Set::isEmpty));
        H h = like(4, t, null, order & (1 << 3 * m) - 1);
        h.params.clear();
        for (int p = 0; p < n; p++) {
            h.params.add(kinds.get(p).iterator().next());
        }
        return h;
    }

    private H filter(H t, int i, H f) throws Refused {
        bad(i < 0 || i >= t.params.size());
        full();
        rule(1, f.params.size() != 1);
        rule(2, f.result != t.params.get(i));
        H h = like(5, t, f, i);
        h.params.set(i, f.params.get(0));
        return h;
    }

    private H after(H t, H f) throws Refused {
        full();
        rule(1, f.params.size() != (t.result == 6 ? 0 : 1));
        rule(2, t.result != 6 && f.params.get(0) != t.result);
        H h = like(6, t, f, 0);
        h.result = f.result;
        return h;
    }

    private H fold(H t, H f) throws Refused {
        full();
        rule(1, f.result != 6 && (t.params.isEmpty() || t.params.get(0) != f.result));
        H h = like(7, t, f, 0);
        if (f.result != 6) {
            h.params.remove(0);
        }
        rule(2, !first(f.params, h.params));
        return h;
    }

    private H guard(H test, H yes, H no) throws Refused {
        full();
        rule(1, !yes.params.equals(no.params) || yes.result != no.result);
        rule(2, test.result != 3);
        rule(3, !first(test.params, yes.params));
        H h = like(8, yes, test, 0);
        h.third = no;
        return h;
    }

    private H spread(H t, int n) throws Refused {
        bad(n < 0 || n > 6);
        full();
        int m = t.params.size();
        rule(1, m < n || !t.params.subList(m - n, m).stream().allMatch(k -> k == 1));
        rule(2, m - n + 1 == 7);
        H h = like(9, t, null, n);
        h.params.subList(m - n, m).clear();
        h.params.add(5);
        return h;
    }

    private H collect(H t, int n) throws Refused {
        bad(n < 0 || n > 6);
        full();
        int m = t.params.size();
        rule(1, m == 0 || t.params.get(m - 1) != 5);
        rule(2, m - 1 + n > 6);
        H h = like(10, t, null, n);
        h.params.remove(m - 1);
        h.params.addAll(Collections.nCopies(n, 1));
        return h;
    }

    private H widen(H t, int i, int kind) throws Refused {
        bad(i < -1 || i >= t.params.size() || kind < 0 || kind > 5);
        if (kind == (i < 0 ? t.result : t.params.get(i))) {
            return t;
        }
        full();
        rule(1, i < 0 ? !widens(t.result, kind) : !widens(kind, t.params.get(i)));
        H h = like(11, t, null, i);
        if (i < 0) {
            h.result = kind;
        } else {
            h.params.set(i, kind);
        }
        return h;
    }

    private H loop(H c, H body) throws Refused {
        full();
        rule(1, c.result != 0);
        rule(2, body.params.size() < 2 || body.params.get(0) != body.result || body.params.get(1) != 0);
        rule(3, !first(c.params, body.params.subList(2, body.params.size())));
        H h = like(12, body, c, 0);
        h.params.remove(1);
        return h;
    }

    private H caught(H t, int kind, H f) throws Refused {
        bad(!SOFT.contains(kind));
        full();
        rule(1, f.result != t.result);
        rule(2, !first(f.params, t.params));
        return like(13, t, f, kind);
    }

    private H ensure(H t, H f) throws Refused {
        full();
        rule(1, f.result != 6);
        rule(2, !first(f.params, t.params));
        return like(14, t, f, 0);
    }

    private int list(H h) {
        if (all.get(h.num) == h) {
            return h.num;
        }
        int n = 0;
        while (all.containsKey(n)) {
            n++;
        }
        h.num = n;
        all.put(n, h);
        return n;
    }

    private static void reach(H h, Set<H> seen) {
        for (H part : Arrays.asList(h.target, h.other, h.third)) {
            if (part != null && seen.add(part)) {
                reach(part, seen);
            }
        }
    }

    private static boolean reaches(H h, H g) {
        Set<H> seen = new HashSet<>();
        reach(h, seen);
        return seen.contains(g);
    }

    private int retarget(H s, H h) throws Refused {
        bad(s.sort != 15);
        rule(1, !s.params.equals(h.params) || s.result != h.result);
        if (s == h || reaches(h, s)) {
            throw new Refused(NO, 0);
        }
        s.target = h;
        s.detail++;
        return s.detail;
    }

    private int sweep() {
        Set<H> stay = new HashSet<>();
        for (H h : all.values()) {
            if (h.pinned) {
                stay.add(h);
                reach(h, stay);
            }
        }
        int had = all.size();
        all.values().removeIf(h -> !stay.contains(h));
        return had - all.size();
    }

    // ---- plain forms

    private final Map<Plain, Integer> plainNumbers = new HashMap<>();
    private final List<Plain> plains = new ArrayList<>();

    private int intern(Plain p) {
        return plainNumbers.computeIfAbsent(p, q -> {
            plains.add(q);
            return plains.size() - 1;
        });
    }

    private static List<Integer> kinds(H h) {
        List<Integer> all = new ArrayList<>(h.params);
        all.add(h.result);
        return all;
    }

    private int plain(H h, Map<H, Integer> known) {
        if (h == null) {
            return -1;
        }
        Integer had = known.get(h);
        if (had != null) {
            return had;
        }
        int made = plainOf(h, known);
        known.put(h, made);
        return made;
    }

    private int plainOf(H h, Map<H, Integer> known) {
        if (h.sort == 15) {
            return intern(new Plain(15, 0, List.of(), null, -1, -1, -1, h));
        }
        int t = plain(h.target, known);
        int o = plain(h.other, known);
        int th = plain(h.third, known);
        if (h.sort == 4) {
            return plainPermute(h, t);
        }
        if (h.sort == 2 && plains.get(t).sort == 3 && plains.get(t).detail == h.detail) {
            return plains.get(t).t;
        }
        if (h.sort == 8 && t == th && quiet(o)) {
            return t;
        }
        return intern(new Plain(h.sort, h.detail, kinds(h), h.value, t, o, th, null));
    }

    private int arity(int plain) {
        Plain p = plains.get(plain);
        return p.site != null ? p.site.params.size() : p.kinds.size() - 1;
    }

    private int plainPermute(H h, int t) {
        int base = t;
        List<Integer> taken = new ArrayList<>();
        for (int j = 0; j < h.target.params.size(); j++) {
            taken.add(h.detail >> 3 * j & 7);
        }
        if (plains.get(t).sort == 4) {
            base = plains.get(t).t;
            List<Integer> both = new ArrayList<>();
            for (int j = 0; j < arity(base); j++) {
                both.add(taken.get(plains.get(t).detail >> 3 * j & 7));
            }
            taken = both;
        }
        List<Integer> home = new ArrayList<>();
        for (int p = 0; p < h.params.size(); p++) {
            home.add(p);
        }
        if (taken.equals(home)) {
            return base;
        }
        int order = 0;
        for (int j = 0; j < taken.size(); j++) {
            order |= taken.get(j) << 3 * j;
        }
        return intern(new Plain(4, order, kinds(h), null, base, -1, -1, null));
    }

    private boolean quiet(int plain) {
        if (plain < 0) {
            return true;
        }
        Plain p = plains.get(plain);
        if (p.sort == 0) {
            return !LOUD.contains(p.detail);
        }
        return List.of(1, 2, 3, 4, 5, 6, 7, 8, 11).contains(p.sort) && quiet(p.t) && quiet(p.o) && quiet(p.th);
    }

    // ---- EVAL

    private Failed failure(H at, int kind) {
        int told = kind;
        if (SOFT.contains(kind)) {
            if (failures == 20) {
                told = 5;
            } else {
                failures++;
            }
        }
        List<Integer> path = new ArrayList<>(open);
        if (path.isEmpty() || path.get(0) != at.num) {
            path.add(0, at.num);
        }
        return new Failed(told, path);
    }

    private Object eval(H h, List<Object> given) throws Failed {
        if (steps == 20000) {
            throw failure(h, 5);
        }
        if (open.size() == 100) {
            throw failure(h, 4);
        }
        if (given.size() != h.params.size()) {
            throw new IllegalStateException("the model is wrong");
        }
        steps++;
        open.push(h.num);
        try {
            return evalSort(h, given);
        } finally {
            open.pop();
        }
    }

    private static List<Object> firstOf(List<Object> given, H part) {
        return given.subList(0, part.params.size());
    }

    private static List<Object> with(Object v, List<Object> rest) {
        List<Object> all = new ArrayList<>();
        all.add(v);
        all.addAll(rest);
        return all;
    }

    private Object evalSort(H h, List<Object> given) throws Failed {
        List<Object> a = new ArrayList<>(given);
        switch (h.sort) {
            case 0:
                trace.add(new Seen(h.num, h.detail, h.params, a));
                return run(h, a);
            case 1:
                return h.value;
            case 2:
                a.add(h.detail, h.value);
                return eval(h.target, a);
            case 3:
                a.remove(h.detail);
                return eval(h.target, a);
            case 4:
                List<Object> taken = new ArrayList<>();
                for (int j = 0; j < h.target.params.size(); j++) {
                    taken.add(a.get(h.detail >> 3 * j & 7));
                }
                return eval(h.target, taken);
            case 5:
                a.set(h.detail, eval(h.other, List.of(a.get(h.detail))));
                return eval(h.target, a);
            case 6:
                Object first = eval(h.target, a);
                return eval(h.other, h.target.result == 6 ? List.of() : List.of(first));
            case 7:
                Object ahead = eval(h.other, firstOf(a, h.other));
                return eval(h.target, h.other.result == 6 ? a : with(ahead, a));
            case 8:
                return eval((Boolean) eval(h.other, firstOf(a, h.other)) ? h.target : h.third, a);
            case 15:
                return eval(h.target, a);
            default:
                return evalLater(h, a);
        }
    }

    private Object evalLater(H h, List<Object> a) throws Failed {
        switch (h.sort) {
            case 9:
                List<?> row = (List<?>) a.remove(a.size() - 1);
                if (row.size() != h.detail) {
                    throw failure(h, 2);
                }
                a.addAll(row);
                return eval(h.target, a);
            case 10:
                List<Object> last = a.subList(a.size() - h.detail, a.size());
                Object made = made(h, new ArrayList<>(last));
                last.clear();
                a.add(made);
                return eval(h.target, a);
            case 11:
                if (h.detail < 0) {
                    return wide(eval(h.target, a), h.result);
                }
                a.set(h.detail, wide(a.get(h.detail), h.target.params.get(h.detail)));
                return eval(h.target, a);
            case 12:
                return evalLoop(h, a.get(0), a.subList(1, a.size()));
            case 13:
                try {
                    return eval(h.target, a);
                } catch (Failed f) {
                    if (f.kind != h.detail) {
                        throw f;
                    }
                }
                return eval(h.other, firstOf(a, h.other));
            default:
                return evalEnsure(h, a);
        }
    }

    private Object evalLoop(H h, Object start, List<Object> rest) throws Failed {
        int n = (Integer) eval(h.other, firstOf(rest, h.other));
        Object v = start;
        for (int round = 0; round < n; round++) {
            if (round == 1000) {
                throw failure(h, 5);
            }
            v = eval(h.target, with(v, with(round, rest)));
        }
        return v;
    }

    private Object evalEnsure(H h, List<Object> a) throws Failed {
        Failed before = null;
        Object v = null;
        try {
            v = eval(h.target, a);
        } catch (Failed f) {
            before = f;
        }
        if (before != null && !SOFT.contains(before.kind)) {
            throw before;
        }
        eval(h.other, firstOf(a, h.other));
        if (before != null) {
            throw before;
        }
        return v;
    }

    private static Object wide(Object v, int kind) {
        if (v instanceof Integer i) {
            return kind == 1 ? (Object) (long) i : kind == 2 ? (Object) (double) i : v;
        }
        return v instanceof Long l && kind == 2 ? (Object) (double) l : v;
    }

    private Object made(H h, List<Object> row) throws Failed {
        if (rows == 200 || items + row.size() > 2000) {
            throw failure(h, 7);
        }
        rows++;
        items += row.size();
        return row;
    }

    private Object run(H h, List<Object> a) throws Failed {
        int f = h.detail;
        if (f <= 8) {
            return runInts(h, (Integer) a.get(0), a.size() > 1 ? (Integer) a.get(1) : 0);
        }
        if (f <= 15) {
            return runLongs(h, (Long) a.get(0), a.size() > 1 ? (Long) a.get(1) : 0);
        }
        if (f <= 23) {
            return runReals(f, (Double) a.get(0), a.size() > 1 ? (Double) a.get(1) : 0);
        }
        if (f <= 38 || f == 52) {
            return runTruths(f, a);
        }
        if (f <= 44) {
            return runRows(h, (List<?>) a.get(0), a);
        }
        if (f <= 48) {
            return runWords(h, (String) a.get(0), a);
        }
        switch (f) {
            case 49:
                return ++count;
            case 50:
                note = (Long) a.get(0);
                return null;
            case 51:
                return note;
            default:
                return null;
        }
    }

    private Object runInts(H h, int a, int b) throws Failed {
        switch (h.detail) {
            case 0: return a + b;
            case 1: return a - b;
            case 2: return a * b;
            case 3: case 4:
                if (b == 0) {
                    throw failure(h, 1);
                }
                return h.detail == 3 ? a / b : a % b;
            case 5: return a & b;
            case 6: return a ^ b;
            case 7: return -a;
            default:
                if (a != 0) {
                    throw failure(h, 6);
                }
                return a;
        }
    }

    private Object runLongs(H h, long a, long b) throws Failed {
        switch (h.detail) {
            case 9: return a + b;
            case 10: return a - b;
            case 11: return a * b;
            case 12: case 13:
                if (b == 0) {
                    throw failure(h, 1);
                }
                return h.detail == 12 ? a / b : a % b;
            case 14: return a ^ b;
            default: return -a;
        }
    }

    private static Object runReals(int f, double a, double b) {
        switch (f) {
            case 16: return a + b;
            case 17: return a - b;
            case 18: return a * b;
            case 19: return a / b;
            case 20: return Math.min(a, b);
            case 21: return Math.max(a, b);
            case 22: return Math.floor(a);
            default: return -a;
        }
    }

    private static Object runTruths(int f, List<Object> a) {
        switch (f) {
            case 24: return (Integer) a.get(0) < (Integer) a.get(1);
            case 25: return (Long) a.get(0) < (Long) a.get(1);
            case 26: return (Double) a.get(0) < (Double) a.get(1);
            case 29: return (double) (Double) a.get(0) == (Double) a.get(1);
            case 27: case 28: case 30: return a.get(0).equals(a.get(1));
            case 31: return ((String) a.get(0)).compareTo((String) a.get(1)) < 0;
            case 32: return !(Boolean) a.get(0);
            case 33: return (Boolean) a.get(0) && (Boolean) a.get(1);
            case 34: return (Boolean) a.get(0) || (Boolean) a.get(1);
            case 52: return (Boolean) a.get(0) ? 1 : 0;
            default: return (Boolean) a.get(0) ? a.get(1) : a.get(2);
        }
    }

    private Object runRows(H h, List<?> row, List<Object> a) throws Failed {
        int n = row.size();
        switch (h.detail) {
            case 39:
                return n;
            case 41:
                return row.stream().mapToLong(v -> (Long) v).sum();
            case 43:
                return row.indexOf(a.get(1));
            default:
        }
        int i = (Integer) a.get(1);
        if (h.detail == 42) {
            int to = (Integer) a.get(2);
            if (!(0 <= i && i <= to && to <= n)) {
                throw failure(h, 2);
            }
            return made(h, new ArrayList<>(row.subList(i, to)));
        }
        if (i < 0 || i >= n) {
            throw failure(h, 2);
        }
        if (h.detail == 40) {
            return row.get(i);
        }
        List<Object> other = new ArrayList<>(row);
        other.set(i, a.get(2));
        return made(h, other);
    }

    private Object runWords(H h, String w, List<Object> a) throws Failed {
        switch (h.detail) {
            case 45:
                String both = w + a.get(1);
                if (both.length() > 8) {
                    throw failure(h, 3);
                }
                return both;
            case 48:
                return w.length();
            default:
        }
        int i = (Integer) a.get(1);
        boolean first = h.detail == 46;
        if (i < 0 || i > w.length() || !first && i == w.length()) {
            throw failure(h, 2);
        }
        return first ? (Object) w.substring(0, i) : (Object) (w.charAt(i) - 'a' + 1);
    }

    private int call(H h) throws Refused {
        rule(1, h.params.size() != args.size());
        rule(2, !h.params.equals(argKinds));
        List<Object> given = new ArrayList<>(args);
        args.clear();
        argKinds.clear();
        steps = rows = items = failures = 0;
        trace.clear();
        open.clear();
        way = List.of();
        try {
            came = eval(h, given);
            cameKind = h.result;
            how = 0;
        } catch (Failed f) {
            came = null;
            cameKind = 6;
            how = f.kind;
            way = f.path;
        }
        return how;
    }

    // ---- what is told

    private int about(H h, int what) throws Refused {
        bad(what < 0 || what > 4);
        H part = what == 1 ? h.target : what == 2 ? h.other : h.third;
        return what == 0 ? h.sort : what == 4 ? h.detail : part == null ? NONE : part.num;
    }

    private long trace(long k, long what) {
        if (k < 0 || k >= Math.min(trace.size(), 200)) {
            return 0;
        }
        Seen s = trace.get((int) k);
        long[] heads = {s.num, s.f, s.args.size()};
        if (what < 0 || what >= 3 + s.args.size()) {
            return 0;
        }
        return what < 3 ? heads[(int) what] : told(s.args.get((int) what - 3));
    }

    private long spent(long what) {
        long begun = trace.size();
        long[] all = {steps, begun, rows, items, failures, count, note};
        return what < 0 || what > 6 ? 0 : all[(int) what];
    }

    private long told(long what) {
        long pinned = all.values().stream().filter(h -> h.pinned).count();
        long[] n = {all.size(), pinned, args.size(), way.size(), Math.min(trace.size(), 200)};
        return what < 0 || what > 4 ? BAD : n[(int) what];
    }

    private static void digestValue(List<Long> n, Object v) {
        n.add(told(v));
        if (v instanceof List<?> row) {
            row.forEach(item -> n.add((Long) item));
        }
    }

    private long digest() throws Refused {
        List<Long> n = new ArrayList<>();
        for (H h : all.values()) {
            n.add((long) h.num);
            n.add((long) h.sort);
            kinds(h).forEach(k -> n.add((long) k));
            for (int what = 1; what <= 4; what++) {
                n.add((long) about(h, what));
            }
            if (h.valueKind >= 0) {
                digestValue(n, h.value);
            }
            n.add(h.pinned ? 1L : 0L);
        }
        for (int i = 0; i < args.size(); i++) {
            n.add((long) argKinds.get(i));
            digestValue(n, args.get(i));
        }
        for (List<Long> row : board) {
            digestValue(n, row);
        }
        n.add(count);
        n.add(note);
        long h = 17;
        for (long v : n) {
            h = 31 * h + v;
        }
        return h;
    }

    /** A call that does not change status() and rule(). */
    private Long asked(String name, long[] a) {
        switch (name) {
            case "how": return (long) how;
            case "result": return told(came);
            case "item":
                return cameKind == 5 && a[0] >= 0 && a[0] < ((List<?>) came).size()
                        ? (Long) ((List<?>) came).get((int) a[0]) : 0L;
            case "failedAt": return (long) (way.isEmpty() ? NONE : way.get(0));
            case "path": return (long) (a[0] < 0 || a[0] >= way.size() ? NONE : way.get((int) a[0]));
            case "trace": return trace(a[0], a[1]);
            case "spent": return spent(a[0]);
            case "told": return told(a[0]);
            case "rule": return (long) rule;
            case "status": return (long) status;
            default: return null;
        }
    }

    private long done(String name, long[] a) throws Refused {
        switch (name) {
            case "board":
                bad(a[0] < 0 || a[0] > 7 || a[1] < 0 || a[1] > 64);
                board.set((int) a[0], new ArrayList<>(Collections.nCopies((int) a[1], 0L)));
                return a[1];
            case "put":
                bad(a[0] < 0 || a[0] > 7 || a[1] < 0 || a[1] >= board.get((int) a[0]).size());
                board.get((int) a[0]).set((int) a[1], a[2]);
                return 1;
            case "retarget":
                return retarget(at(a[0]), at(a[1]));
            case "arg":
                Object v = value((int) a[0], a[1]);
                if (args.size() == 6) {
                    throw new Refused(FULL, 0);
                }
                args.add(v);
                argKinds.add((int) a[0]);
                return args.size();
            case "noArgs":
                int had = args.size();
                args.clear();
                argKinds.clear();
                return had;
            case "call":
                return call(at(a[0]));
            case "type":
                H h = at(a[0]);
                bad(a[1] < -1 || a[1] >= h.params.size());
                return a[1] < 0 ? h.result : h.params.get((int) a[1]);
            case "arity":
                return at(a[0]).params.size();
            case "about":
                return about(at(a[0]), (int) a[1]);
            case "reaches":
                return reaches(at(a[0]), at(a[1])) ? 1 : 0;
            case "alike":
                return plain(at(a[0]), new HashMap<>()) == plain(at(a[1]), new HashMap<>()) ? 1 : 0;
            case "quiet":
                return quiet(plain(at(a[0]), new HashMap<>())) ? 1 : 0;
            case "pin":
                H p = at(a[0]);
                boolean was = p.pinned;
                p.pinned = a[1] != 0;
                return was ? 1 : 0;
            case "sweep":
                return sweep();
            case "digest":
                return digest();
            default:
                return list(build(name, a));
        }
    }

    long apply(String name, long... a) {
        Long told = asked(name, a);
        if (told != null) {
            return told;
        }
        status = 0;
        rule = 0;
        try {
            return done(name, a);
        } catch (Refused r) {
            status = r.code;
            rule = r.rule;
            return r.code;
        }
    }
}
