import java.util.ArrayList;
import java.util.Arrays;
import java.util.List;

/**
 * Runs of made-up calls on the class and on the model, all answers compared. The same runs each time; none
 * is longer than an object may be used.
 */
public final class ModelTest {
    private static final int RUNS = 8000, MOST_CALLS = 512, CALLS_AT_THE_END = 60;
    private static final String[] MAKERS = {"leaf", "constant", "bind", "drop", "permute", "filter", "after", "fold",
        "guard", "spread", "collect", "widen", "loop", "caught", "ensure", "site"};
    private static final long[] INTS = {0, 1, -1, 2, 3, 4, 5, 7, -7, 20, 21, 25, 64, 100, 200, 999, 1000, 1001, -5,
        Integer.MAX_VALUE, Integer.MIN_VALUE, 1L << 31, -1L << 40};
    private static final double[] REALS = {0, -0.0, 1, -1, 0.5, -2.5, 1e300, -1e300, 1e-310, 4.9e-324, 3.1, 1e18,
        Double.NaN, Double.POSITIVE_INFINITY, Double.NEGATIVE_INFINITY, 9007199254740993.0, 1.0 / 3};
    private static final String[] WORDS = {"", "a", "ab", "abc", "zzzzzzzz", "abcd", "abcde", "b", "za"};

    private static long seed;
    private static long asked;
    private static final int[] ENDS = new int[8];
    private static int madeCalls;

    private ModelTest() {
    }

    public static void main(String[] args) {
        int runs = args.length > 0 ? Integer.parseInt(args[0]) : RUNS;
        for (int run = 0; run < runs; run++) {
            seed = run * 7919L + 12345;
            if (!new Run(run).isAsDue()) {
                System.exit(1);
            }
        }
        System.out.println("ModelTest: " + asked + " answers in " + runs + " runs are as due; " + madeCalls
                + " calls ended so: " + Arrays.toString(ENDS));
        for (int end = 0; end < ENDS.length; end++) {
            if (ENDS[end] == 0) {
                System.out.println("ModelTest: no call ended by " + end + ", the runs test too little");
                System.exit(1);
            }
        }
    }

    /** A number from 0 to n - 1, by a row of numbers that is always the same. */
    private static int any(int n) {
        seed = seed * 6364136223846793005L + 1442695040888963407L;
        return (int) Long.remainderUnsigned(seed >>> 24, n);
    }

    private static long bits(int kind) {
        if (any(30) == 0) {
            return any(3) == 0 ? seed : any(40) - 3;
        }
        switch (kind) {
            case 0:
                return INTS[any(INTS.length - 2)];
            case 1:
                return any(8) == 0 ? seed : any(3) == 0 ? Long.MIN_VALUE + any(2) : INTS[any(INTS.length)];
            case 2:
                return Double.doubleToLongBits(REALS[any(REALS.length)]);
            case 3:
                return any(2);
            case 4:
                long w = 0;
                for (char c : WORDS[any(WORDS.length)].toCharArray()) {
                    w = w << 5 | c - 'a' + 1;
                }
                return w;
            default:
                return any(8);
        }
    }

    private static long ask(CallBench b, String name, long... a) {
        int x = a.length > 0 ? (int) a[0] : 0;
        int y = a.length > 1 ? (int) a[1] : 0;
        int z = a.length > 2 ? (int) a[2] : 0;
        switch (name) {
            case "board": return b.board(x, y);
            case "put": return b.put(x, y, a[2]);
            case "leaf": return b.leaf(x);
            case "constant": return b.constant(x, a[1]);
            case "bind": return b.bind(x, y, a[2]);
            case "drop": return b.drop(x, y, z);
            case "permute": return b.permute(x, y, z);
            case "filter": return b.filter(x, y, z);
            case "after": return b.after(x, y);
            case "fold": return b.fold(x, y);
            case "guard": return b.guard(x, y, z);
            case "spread": return b.spread(x, y);
            case "collect": return b.collect(x, y);
            case "widen": return b.widen(x, y, z);
            case "loop": return b.loop(x, y);
            case "caught": return b.caught(x, y, z);
            case "ensure": return b.ensure(x, y);
            case "site": return b.site(x);
            case "retarget": return b.retarget(x, y);
            case "arg": return b.arg(x, a[1]);
            case "noArgs": return b.noArgs();
            case "call": return b.call(x);
            case "how": return b.how();
            case "result": return b.result();
            case "item": return b.item(x);
            case "failedAt": return b.failedAt();
            case "path": return b.path(x);
            case "trace": return b.trace(x, y);
            case "spent": return b.spent(x);
            case "type": return b.type(x, y);
            case "arity": return b.arity(x);
            case "about": return b.about(x, y);
            case "reaches": return b.reaches(x, y);
            case "alike": return b.alike(x, y);
            case "quiet": return b.quiet(x);
            case "pin": return b.pin(x, y != 0);
            case "sweep": return b.sweep();
            case "told": return b.told(x);
            case "rule": return b.rule();
            case "status": return b.status();
            case "digest": return b.digest();
            default: throw new IllegalArgumentException(name);
        }
    }

    /** One run: an object, the model, and what was called. */
    private static final class Run {
        private final int number;
        private final CallBench real = new CallBench();
        private final Model model = new Model();
        private final List<String> calls = new ArrayList<>();
        private final int style = any(6);
        /** How much is asked between the changes. */
        private final int talk = any(5);
        private int used;
        private boolean asDue = true;

        Run(int number) {
            this.number = number;
        }

        boolean isAsDue() {
            if (style == 3) {
                beginDeep();
            } else if (style == 4) {
                beginRows();
            }
            while (asDue && left() > CALLS_AT_THE_END) {
                step();
            }
            while (asDue && left() > 1) {
                compareHandle();
            }
            same("digest");
            return asDue;
        }

        private int left() {
            return MOST_CALLS - used;
        }

        /** A chain of sites about as long as can be called, with what may stand around it. */
        private void beginDeep() {
            call("leaf", any(2) == 0 ? 8 : 7);
            int deep = 85 + any(15);
            for (int k = 0; k < deep; k++) {
                String sort = any(12) == 0 ? "ensure" : any(12) == 0 ? "caught" : "site";
                if (k == 0 || "site".equals(sort)) {
                    call("site", model.all.size() - 1);
                } else if ("caught".equals(sort)) {
                    call("caught", model.all.size() - 1, 6, 0);
                } else {
                    call("drop", model.all.size() - 1, any(2), 0);
                    call("permute", model.all.size() - 1, 1, 0);
                }
            }
        }

        /** Loops that make about as many rows and items as can be. */
        private void beginRows() {
            call("board", 1, 8 + any(57));
            call("board", 2, any(20));
            call("leaf", 44);
            call("leaf", 42);
            call("leaf", 39);
            call("constant", 0, any(64));
            call("constant", 0, 190 + any(20));
            call("loop", 3, 0);
            call("bind", 1, 2, any(10));
            call("bind", 0, 2, 5);
            call("loop", 2 + any(3), 7);
            call("bind", 6, 1, any(2));
            call("drop", 9, 1, 0);
            call("loop", 4, 10);
            call("bind", 7, 1, any(10));
            call("drop", 12, 1, 0);
            call("loop", 4, 13);
            call("collect", 11, any(4));
            call("after", 11, 14);
        }

        private long same(String name, long... a) {
            if (left() <= 0) {
                return 0;
            }
            used++;
            asked++;
            long due = model.apply(name, a);
            long got = ask(real, name, a);
            if (got != due && asDue) {
                asDue = false;
                calls.forEach(System.out::println);
                System.out.println("run " + number + ": " + name + Arrays.toString(a) + " answered " + got
                        + ", due is " + due);
            }
            return due;
        }

        private long call(String name, long... a) {
            calls.add(name + Arrays.toString(a));
            long due = same(name, a);
            if (any(3) < talk) {
                same("status");
                same("rule");
            }
            for (int k = "call".equals(name) && due >= 0 ? 2 * talk : 0; k > 0 || any(8) < talk - 1; k--) {
                compareTold();
            }
            return due;
        }

        private long handle() {
            if (any(40) == 0) {
                return any(124) - 2;
            }
            int n = model.all.size();
            if (n == 0) {
                return 0;
            }
            int k = style == 0 ? n - 1 - any(Math.min(n, 3)) : style == 1 ? n - 1 - any(Math.min(n, 10)) : any(n);
            return (Integer) model.all.keySet().toArray()[k];
        }

        private void step() {
            int what = any(100);
            if (what < 45 || model.all.size() < 12) {
                make();
            } else if (what < 75) {
                invoke();
            } else if (what < 80) {
                fillRow();
            } else if (what < 84) {
                call("retarget", site(), handle());
            } else if (what < 88) {
                call("pin", handle(), any(3) == 0 ? 0 : 1);
            } else if (what < 89) {
                if (any(4) == 0) {
                    call("sweep");
                }
            } else if (what < 92) {
                call("alike", handle(), handle());
            } else if (what < 94) {
                call("quiet", handle());
            } else if (what < 96) {
                call("reaches", handle(), handle());
            } else if (what < 97) {
                call("arg", any(8) - 1, bits(any(6)));
            } else {
                call("digest");
            }
        }

        private void fillRow() {
            int k = any(9);
            int[] lengths = {0, 1, 2, 3, 5, 6, 10, 64, 65};
            int n = lengths[any(lengths.length)];
            call("board", k, n);
            for (int i = 0; i < n && i < 6; i++) {
                if (any(2) == 0) {
                    call("put", k, i, bits(1));
                }
            }
        }

        private long site() {
            for (Model.H h : model.all.values()) {
                if (h.sort == 15 && any(3) > 0) {
                    return h.num;
                }
            }
            return handle();
        }

        /** A call that makes a handle, most often one that is not refused. */
        private void make() {
            String name = MAKERS[any(MAKERS.length)];
            if (model.all.size() < 12) {
                name = any(4) == 0 ? "constant" : "leaf";
            } else if (style == 0 && any(3) > 0) {
                name = any(2) == 0 ? "site" : "caught";
            } else if (style == 2 && any(3) == 0) {
                name = "loop";
            }
            long[] a = arguments(name);
            for (int k = 0; k < 30 && any(12) > 0; k++) {
                try {
                    model.build(name, a);
                    break;
                } catch (Model.Refused r) {
                    a = arguments(name);
                }
            }
            call(name, a);
        }

        private long[] arguments(String name) {
            switch (name) {
                case "leaf":
                    return new long[] {any(40) == 0 ? any(60) - 3 : any(54)};
                case "constant":
                    int kind = any(20) == 0 ? any(9) - 1 : any(2) * any(6);
                    return new long[] {kind, bits(kind)};
                case "bind":
                    Model.H h = model.all.get((int) handle());
                    int i = any(3);
                    return new long[] {h == null ? 99 : h.num, i,
                        bits(h == null || i >= h.params.size() ? 0 : h.params.get(i))};
                case "drop":
                    return new long[] {handle(), any(5) - any(2), any(30) == 0 ? any(9) - 1 : any(6)};
                case "permute":
                    return new long[] {handle(), any(30) == 0 ? any(9) - 1 : any(4),
                        any(3) == 0 ? any(1 << 18) : any(4) | any(4) << 3 | any(4) << 6 | any(4) << 9};
                case "filter":
                    return new long[] {handle(), any(4) - any(2) * any(2), handle()};
                case "guard":
                    return new long[] {handle(), handle(), handle()};
                case "spread": case "collect":
                    return new long[] {handle(), any(20) == 0 ? any(9) - 1 : any(4)};
                case "widen":
                    return new long[] {handle(), any(4) - 1, any(20) == 0 ? any(9) - 1 : any(3)};
                case "caught":
                    int[] kinds = {1, 2, 3, 6, 6, 2, any(10) - 1};
                    return new long[] {handle(), kinds[any(kinds.length)], handle()};
                case "site":
                    return new long[] {handle()};
                default:
                    return new long[] {handle(), handle()};
            }
        }

        private void invoke() {
            Model.H h = model.all.get((int) handle());
            if (h == null || any(25) == 0) {
                call("call", handle());
                return;
            }
            if (!model.args.isEmpty() && any(20) > 0) {
                call("noArgs");
            }
            for (int kind : h.params) {
                call("arg", any(60) == 0 ? any(6) : kind, bits(kind));
            }
            long end = call("call", h.num);
            if (end >= 0 && end < ENDS.length) {
                ENDS[(int) end]++;
                madeCalls++;
            }
        }

        /** Something of what the latest call told. */
        private void compareTold() {
            int[] ends = {-1, 0, 1, 2, 63, 64};
            switch (any(10)) {
                case 0:
                    same("how");
                    break;
                case 1:
                    same("result");
                    break;
                case 2:
                    same("failedAt");
                    break;
                case 3:
                    same("item", ends[any(ends.length)]);
                    break;
                case 4:
                    same("path", number((int) model.apply("told", 3)));
                    break;
                case 5: case 6:
                    same("spent", any(9) - 1);
                    break;
                case 7:
                    same("told", any(7) - 1);
                    break;
                default:
                    same("trace", number((int) model.apply("told", 4)), any(8) - 1);
            }
        }

        /** A number of a list of n, often at its ends, or just beyond them. */
        private int number(int n) {
            switch (any(4)) {
                case 0:
                    return n - 2 + any(4);
                case 1:
                    return any(3) - 1;
                default:
                    return any(n + 1);
            }
        }

        private void compareHandle() {
            switch (any(7)) {
                case 0:
                    same("arity", handle());
                    break;
                case 1:
                    same("quiet", handle());
                    break;
                case 2:
                    same("type", handle(), any(9) - 2);
                    break;
                case 3:
                    same("about", handle(), any(7) - 1);
                    break;
                case 4:
                    same("reaches", handle(), handle());
                    break;
                default:
                    same("alike", handle(), handle());
            }
        }
    }
}
