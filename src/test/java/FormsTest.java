import java.util.ArrayList;
import java.util.List;

/** The edges of PLAIN FORMS, of what is QUIET and ALIKE, of what REACHES what, and of what a sweep takes. */
public final class FormsTest extends Sheet {
    private FormsTest() {
    }

    public static void main(String[] args) {
        permutesOfPermutes();
        permutesThatChangeNothing();
        permutesOfOthers();
        bindsOfDrops();
        bindsOfOthers();
        guards();
        guardsWithin();
        sameFunctions();
        sameValues();
        samePlaces();
        sameParts();
        sameForms();
        sites();
        quietFunctions();
        quietSorts();
        reaches();
        sweeps();
        sweepsAndForms();
        C.end("FormsTest");
    }

    /** All ORDERS of so many PARAMETERS that take each number below n. */
    private static List<int[]> ordersOf(int arity, int n) {
        List<int[]> all = new ArrayList<>();
        int many = 1;
        for (int j = 0; j < arity; j++) {
            many *= n;
        }
        for (int k = 0; k < many; k++) {
            int[] taken = new int[arity];
            int seen = 0;
            int rest = k;
            for (int j = 0; j < arity; j++) {
                taken[j] = rest % n;
                rest /= n;
                seen |= 1 << taken[j];
            }
            if (seen == (1 << n) - 1) {
                all.add(taken);
            }
        }
        return all;
    }

    private static boolean changesNothing(int[] taken, int n) {
        for (int j = 0; j < taken.length; j++) {
            if (taken[j] != j) {
                return false;
            }
        }
        return taken.length == n;
    }

    private static void permutesOfPermutes() {
        C.part("a PERMUTE of a PERMUTE is one by both ORDERS");
        for (int n = 1; n <= 3; n++) {
            for (int[] inner : ordersOf(3, n)) {
                for (int m = 1; m <= n; m++) {
                    for (int[] outer : ordersOf(n, m)) {
                        both(inner, n, outer, m);
                    }
                }
            }
        }
        C.part("PERMUTES of other KINDS");
        Bench b = new Bench();
        int change = b.leaf(44);
        int[][] orders = {{1, 2, 0}, {2, 0, 1}, {0, 2, 1}, {1, 0, 2}, {2, 1, 0}};
        for (int[] one : orders) {
            for (int[] two : orders) {
                int[] joined = {two[one[0]], two[one[1]], two[one[2]]};
                int h = b.permute(b.permute(change, 3, order(one)), 3, order(two));
                int due = changesNothing(joined, 3) ? change : b.permute(change, 3, order(joined));
                alike(b, "of other kinds", h, due, 1);
            }
        }
    }

    private static void both(int[] inner, int n, int[] outer, int m) {
        Bench b = new Bench();
        int sum = b.collect(b.leaf(41), 3);
        int first = b.permute(sum, n, order(inner));
        int second = b.permute(first, m, order(outer));
        int[] joined = new int[3];
        for (int j = 0; j < 3; j++) {
            joined[j] = outer[inner[j]];
        }
        int one = b.permute(sum, m, order(joined));
        String what = "by " + Integer.toOctalString(order(inner)) + " and " + Integer.toOctalString(order(outer));
        alike(b, what, second, one, 1);
        alike(b, what + ", the target's", second, sum, changesNothing(joined, m) ? 1 : 0);
        int other = b.permute(sum, m, order(0, m > 1 ? 1 : 0, m > 2 ? 2 : 0));
        boolean same = joined[0] == 0 && joined[1] == (m > 1 ? 1 : 0) && joined[2] == (m > 2 ? 2 : 0);
        alike(b, what + ", another one", second, other, same ? 1 : 0);
        about(b, second, 4, first, NONE, NONE, order(outer));
        C.due(what + ", quiet", b.quiet(second), 0);
    }

    private static void permutesThatChangeNothing() {
        C.part("a PERMUTE that takes 0, 1, .. in this order, all of its PARAMETERS");
        for (int f : new int[] {49, 7, 1, 44}) {
            Bench b = new Bench();
            int h = b.leaf(f);
            int n = b.arity(h);
            int same = b.permute(h, n, order(0, 1, 2, 3, 4, 5));
            alike(b, "of " + n, same, h, 1);
            alike(b, "twice of " + n, b.permute(same, n, order(0, 1, 2)), h, 1);
            alike(b, "with what does not matter", b.permute(h, n, order(0, 1, 2) | 7 << 15), same, 1);
            C.due("its sort is its own", b.about(same, 0), 4);
        }
        Bench b = new Bench();
        int six = b.collect(b.leaf(41), 6);
        alike(b, "of six", b.permute(six, 6, order(0, 1, 2, 3, 4, 5)), six, 1);
        alike(b, "the last two turned", b.permute(six, 6, order(0, 1, 2, 3, 5, 4)), six, 0);
        alike(b, "the first two turned", b.permute(six, 6, order(1, 0, 2, 3, 4, 5)), six, 0);
        alike(b, "the last one as the one ahead", b.permute(six, 5, order(0, 1, 2, 3, 4, 4)), six, 0);
        alike(b, "all of one", b.permute(six, 1, 0), six, 0);
        int less = b.leaf(1);
        alike(b, "two of one", b.permute(less, 1, 0), less, 0);
        alike(b, "turned twice", b.permute(b.permute(less, 2, 1), 2, 1), less, 1);
        alike(b, "turned thrice", b.permute(b.permute(b.permute(less, 2, 1), 2, 1), 2, 1), b.permute(less, 2, 1), 1);
        alike(b, "turned once", b.permute(less, 2, 1), less, 0);
        int one = b.permute(less, 1, 0);
        alike(b, "of the one", b.permute(one, 1, 0), one, 1);
        alike(b, "turned, then the one", b.permute(b.permute(less, 2, 1), 1, 0), one, 1);
    }

    private static void permutesOfOthers() {
        C.part("a PERMUTE whose TARGET's PLAIN FORM is another sort, or becomes a PERMUTE");
        Bench b = new Bench();
        int less = b.leaf(1);
        int turned = b.permute(less, 2, 1);
        alike(b, "through a site", b.permute(b.site(turned), 2, 1), less, 0);
        int dropped = b.bind(b.drop(turned, 1, WORD), 1, 5);
        alike(b, "a bind of a drop over a permute", b.permute(dropped, 2, 1), less, 1);
        int below = b.leaf(24);
        int guard = b.guard(below, turned, b.permute(b.leaf(1), 2, 1));
        alike(b, "a guard over permutes", b.permute(guard, 2, 1), less, 1);
        int loudly = b.guard(b.drop(b.bind(b.fold(below, b.leaf(8)), 0, 1), 0, INT), turned, turned);
        alike(b, "a loud guard over permutes", b.permute(loudly, 2, 1), less, 0);
        int after = b.after(turned, b.leaf(7));
        alike(b, "an after over a permute", b.permute(after, 2, 1), b.after(less, b.leaf(7)), 0);
        alike(b, "an after of what is turned back", b.after(b.permute(turned, 2, 1), b.leaf(7)),
                b.after(less, b.leaf(7)), 1);
    }

    private static void bindsOfDrops() {
        C.part("a BIND of the PARAMETER that a DROP put in");
        for (int kind = INT; kind <= ROW; kind++) {
            for (int at = 0; at <= 2; at++) {
                Bench b = new Bench();
                int less = b.leaf(1);
                int dropped = b.drop(less, at, kind);
                for (int i = 0; i <= 2; i++) {
                    int bound = b.bind(dropped, i, 1);
                    alike(b, "of kind " + kind + " at " + at + ", bound at " + i, bound, less, i == at ? 1 : 0);
                    C.due("its sort is its own", b.about(bound, 0), 2);
                }
                int other = b.bind(dropped, at, 0);
                alike(b, "by another value", other, b.bind(dropped, at, 1), 1);
            }
        }
        Bench b = new Bench();
        int less = b.leaf(1);
        int one = b.drop(less, 1, INT);
        int two = b.drop(one, 1, INT);
        alike(b, "the outer one", b.bind(two, 1, 5), one, 1);
        alike(b, "the inner one is another place", b.bind(two, 2, 5), one, 0);
        alike(b, "both", b.bind(b.bind(two, 1, 5), 1, 6), less, 1);
        int wide = widened(b, less, 6, ROW);
        int narrow = b.bind(b.bind(b.bind(b.bind(wide, 5, 0), 4, 0), 3, 0), 2, 0);
        alike(b, "all of six", narrow, less, 1);
        int none = b.leaf(49);
        alike(b, "of no parameters", b.bind(b.drop(none, 0, WORD), 0, 1), none, 1);
    }

    private static void bindsOfOthers() {
        C.part("a BIND of another PARAMETER, or not of a DROP");
        Bench b = new Bench();
        int less = b.leaf(1);
        int bound = b.bind(less, 0, 5);
        alike(b, "a drop of a bind", b.drop(bound, 0, INT), less, 0);
        int drop = b.drop(less, 0, INT);
        int turned = b.permute(drop, 3, order(1, 0, 2));
        alike(b, "a permute in between", b.bind(turned, 0, 5), less, 0);
        alike(b, "where the permute put it", b.bind(turned, 1, 5), less, 0);
        alike(b, "a permute that changes nothing in between", b.bind(b.permute(drop, 3, order(0, 1, 2)), 0, 5), less, 1);
        alike(b, "a permute turned back in between", b.bind(b.permute(turned, 3, order(1, 0, 2)), 0, 5), less, 1);
        alike(b, "a site in between", b.bind(b.site(drop), 0, 5), less, 0);
        int filtered = b.filter(drop, 0, b.leaf(48));
        alike(b, "a filter in between", b.bind(filtered, 0, 5), less, 0);
        alike(b, "a filter of what was put in", filtered, b.drop(less, 0, WORD), 0);
        int guard = b.guard(b.drop(b.drop(b.constant(TRUTH, 1), 0, INT), 0, INT), drop, b.drop(b.leaf(1), 0, INT));
        alike(b, "a guard of drops in between", b.bind(guard, 0, 5), less, 1);
        int folded = b.fold(drop, b.constant(INT, 5));
        alike(b, "a fold of what was put in", folded, less, 0);
        int wide = b.widen(drop, -1, LONG);
        alike(b, "a widen in between", b.bind(wide, 0, 5), b.widen(less, -1, LONG), 0);
    }

    private static void guards() {
        C.part("a GUARD whose branches are ALIKE and whose OTHER is QUIET");
        Bench b = new Bench();
        int plus = b.leaf(0);
        int less = b.leaf(1);
        int below = b.leaf(24);
        int by = b.leaf(3);
        int always = b.constant(TRUTH, 1);
        alike(b, "one branch", b.guard(below, less, less), less, 1);
        alike(b, "two that are alike", b.guard(below, less, b.leaf(1)), less, 1);
        alike(b, "of a constant", b.guard(always, less, b.permute(less, 2, order(0, 1))), less, 1);
        alike(b, "two that are not", b.guard(below, less, plus), less, 0);
        alike(b, "two that are not, the other way", b.guard(below, less, plus), plus, 0);
        alike(b, "loud branches", b.guard(below, by, b.leaf(3)), by, 1);
        int loud = b.after(by, b.bind(below, 1, 0));
        int guarded = b.guard(loud, less, less);
        C.due("the other is loud", b.quiet(loud), 0);
        alike(b, "a loud other", guarded, less, 0);
        alike(b, "the same with a loud other", guarded, b.guard(loud, b.leaf(1), less), 1);
        alike(b, "another loud other", guarded, b.guard(b.after(b.leaf(4), b.bind(below, 1, 0)), less, less), 0);
        int site = b.site(below);
        alike(b, "a site for a test", b.guard(site, less, less), less, 0);
        int branch = b.site(less);
        alike(b, "one site for both", b.guard(below, branch, branch), branch, 1);
        alike(b, "two sites", b.guard(below, branch, b.site(less)), branch, 0);
        alike(b, "turned branches", b.guard(below, less, plus), b.guard(below, plus, less), 0);
        alike(b, "the same branches", b.guard(below, less, plus), b.guard(b.leaf(24), b.leaf(1), b.leaf(0)), 1);
        alike(b, "other tests", b.guard(below, less, plus), b.guard(b.leaf(27), less, plus), 0);
        alike(b, "another third", b.guard(below, less, plus), b.guard(below, less, b.leaf(2)), 0);
        alike(b, "another target", b.guard(below, less, plus), b.guard(below, b.leaf(2), plus), 0);
    }

    private static void guardsWithin() {
        C.part("GUARDS in PLAIN FORMS of others");
        Bench b = new Bench();
        int less = b.leaf(1);
        int plus = b.leaf(0);
        int below = b.leaf(24);
        int guard = b.guard(below, less, b.leaf(1));
        alike(b, "a guard of a guard", b.guard(b.leaf(27), guard, less), less, 1);
        alike(b, "a guard beside", b.guard(b.leaf(27), plus, guard), b.guard(b.leaf(27), plus, less), 1);
        int tests = b.guard(b.constant(TRUTH, 0), below, b.leaf(24));
        alike(b, "a guard for a test", b.guard(tests, less, plus), b.guard(below, less, plus), 1);
        alike(b, "a bind of a guard", b.bind(guard, 0, 5), b.bind(less, 0, 5), 1);
        alike(b, "a site of a guard", b.site(guard), b.site(less), 0);
        int drop = b.drop(less, 0, WORD);
        int both = b.guard(b.drop(below, 0, WORD), drop, b.drop(b.leaf(1), 0, WORD));
        alike(b, "bound to what was put in", b.bind(both, 0, 1), less, 1);
        C.due("quiet", b.quiet(b.bind(both, 0, 1)), 1);
    }

    private static void sameFunctions() {
        C.part("ALIKE: the same FUNCTION");
        Bench b = new Bench();
        for (int f = 0; f < 54; f++) {
            b.leaf(f);
        }
        for (int f = 0; f < 54; f++) {
            alike(b, "function " + f, f, b.leaf(f), 1);
            alike(b, "function " + f + " and the next one", f, (f + 1) % 54, 0);
        }
        Bench c = new Bench();
        int plus = c.leaf(0);
        alike(c, "a function and a constant", plus, c.constant(INT, 0), 0);
        alike(c, "a function and a site", plus, c.site(plus), 0);
        alike(c, "a function and a bind", c.leaf(7), c.bind(c.leaf(1), 0, 0), 0);
        for (int h = 0; h < c.told(0); h++) {
            alike(c, "itself", h, h, 1);
        }
    }

    private static void sameValues() {
        C.part("ALIKE: the same VALUES, ROWS by their items");
        long[][] values = {{INT, 0}, {INT, 1}, {INT, -1}, {LONG, 0}, {LONG, 1}, {LONG, -1}, {REAL, 0}, {REAL, 1L << 63},
            {REAL, NO_NUMBER}, {REAL, 1}, {TRUTH, 0}, {TRUTH, 1}, {WORD, 0}, {WORD, 1}, {LONG, 1L << 32}};
        Bench b = new Bench();
        for (long[] v : values) {
            b.constant((int) v[0], v[1]);
        }
        int more = values.length;
        for (int i = 0; i < more; i++) {
            for (int k = 0; k < more; k++) {
                C.due("constants " + i + " and " + k, b.alike(i, k), i == k ? 1 : 0);
            }
            alike(b, "the same constant " + i, i, b.constant((int) values[i][0], values[i][1]), 1);
        }
        Bench r = new Bench();
        int sum = r.leaf(41);
        long[][] rows = {{}, {0}, {0, 0}, {1}, {0, 1}, {1, 0}, {1, 0, 0}, {1, 1L << 32}};
        for (int k = 0; k < rows.length; k++) {
            row(r, k, rows[k]);
        }
        int[] binds = new int[8];
        int[] constants = new int[8];
        for (int k = 0; k < rows.length; k++) {
            binds[k] = r.bind(sum, 0, k);
            constants[k] = r.constant(ROW, k);
        }
        for (int i = 0; i < rows.length; i++) {
            row(r, 7, rows[i]);
            alike(r, "the same items", binds[i], r.bind(sum, 0, 7), 1);
            alike(r, "the same items", constants[i], r.constant(ROW, 7), 1);
            for (int k = 0; k < rows.length; k++) {
                C.due("binds of rows " + i + " and " + k, r.alike(binds[i], binds[k]), i == k ? 1 : 0);
                C.due("rows " + i + " and " + k, r.alike(constants[i], constants[k]), i == k ? 1 : 0);
            }
        }
        Bench w = new Bench();
        w.board(0, 64);
        w.board(1, 64);
        w.constant(ROW, 0);
        alike(w, "64 zeros", 0, w.constant(ROW, 1), 1);
        w.put(1, 63, 1);
        alike(w, "the last one of 64 is another", 0, w.constant(ROW, 1), 0);
        w.board(1, 63);
        alike(w, "63 zeros", 0, w.constant(ROW, 1), 0);
    }

    private static void samePlaces() {
        C.part("ALIKE: the same KINDS, places, ORDERS, NUMBERS, KINDS of failure");
        Bench b = new Bench();
        int less = b.leaf(1);
        int minus = b.leaf(7);
        int longs = b.leaf(36);
        int sum = b.leaf(41);
        int reals = b.leaf(16);
        int change = b.leaf(44);
        int[][] ones = {{b.bind(less, 0, 5), b.bind(less, 1, 5), b.bind(less, 0, 6)},
            {b.drop(less, 0, INT), b.drop(less, 1, INT), b.drop(less, 2, INT), b.drop(less, 0, LONG),
                b.drop(less, 0, ROW)},
            {b.permute(longs, 2, order(0, 1, 1)), b.permute(longs, 3, order(0, 2, 1)),
                b.permute(longs, 3, order(2, 0, 1)), b.permute(longs, 3, order(1, 0, 2))},
            {b.filter(less, 0, minus), b.filter(less, 1, minus)},
            {b.spread(longs, 0), b.spread(longs, 1), b.spread(longs, 2)},
            {b.collect(sum, 0), b.collect(sum, 1), b.collect(sum, 6)},
            {b.widen(reals, 0, INT), b.widen(reals, 0, LONG), b.widen(reals, 1, INT), b.widen(change, 2, INT),
                b.widen(less, -1, LONG), b.widen(less, -1, REAL)},
            {b.caught(less, ZERO, minus), b.caught(less, BOUNDS, minus), b.caught(less, LENGTH, minus),
                b.caught(less, OWN, minus)}};
        for (int[] some : ones) {
            for (int x : some) {
                for (int y : some) {
                    C.due("alike " + x + " " + y, b.alike(x, y), x == y ? 1 : 0);
                }
            }
        }
    }

    /** One of each sort with parts, of these parts: less and others of its type, and the others. */
    private static int made(Bench b, int sort, int target, int other) {
        switch (sort) {
            case 2: return b.bind(target, 0, 5);
            case 3: return b.drop(target, 0, WORD);
            case 4: return b.permute(target, 2, order(1, 0));
            case 5: return b.filter(target, 0, other);
            case 6: return b.after(target, other);
            case 7: return b.fold(target, other);
            case 9: return b.spread(target, 0);
            case 11: return b.widen(target, -1, LONG);
            case 12: return b.loop(other, widened(b, target, 3, INT));
            case 13: return b.caught(target, OWN, other);
            case 14: return b.ensure(target, b.after(b.widen(other, -1, LONG), b.leaf(50)));
            default: return b.guard(b.after(other, b.bind(b.leaf(24), 0, 1)), target, b.leaf(2));
        }
    }

    private static void sameParts() {
        C.part("ALIKE: the same sort with ALIKE ones in it");
        for (int sort : new int[] {2, 3, 4, 5, 6, 7, 8, 9, 11, 12, 13, 14}) {
            Bench b = new Bench();
            int less = b.leaf(1);
            int plus = b.leaf(0);
            int minus = b.leaf(7);
            int own = b.leaf(8);
            int one = made(b, sort, less, minus);
            C.due("its sort", b.about(one, 0), sort);
            alike(b, "sort " + sort + " of the same", one, made(b, sort, less, minus), 1);
            alike(b, "sort " + sort + " of an alike target", one, made(b, sort, b.leaf(1), minus), 1);
            int back = b.permute(b.permute(less, 2, 1), 2, 1);
            alike(b, "sort " + sort + " of a target turned back", one, made(b, sort, back, minus), 1);
            alike(b, "sort " + sort + " of another target", one, made(b, sort, plus, minus), 0);
            alike(b, "sort " + sort + " of a site", one, made(b, sort, b.site(less), minus), 0);
            if (b.about(one, 2) != NONE) {
                alike(b, "sort " + sort + " of an alike other", one, made(b, sort, less, b.leaf(7)), 1);
                alike(b, "sort " + sort + " of another other", one, made(b, sort, less, own), 0);
                int bound = b.bind(b.drop(minus, 1, ROW), 1, 0);
                alike(b, "sort " + sort + " of a bound other", one, made(b, sort, less, bound), 1);
            }
        }
        Bench b = new Bench();
        int rows = b.leaf(41);
        alike(b, "collects", b.collect(rows, 2), b.collect(b.leaf(41), 2), 1);
        alike(b, "collects of others", b.collect(rows, 2), b.collect(b.site(rows), 2), 0);
    }

    private static void sameForms() {
        C.part("ALIKE: not other sorts that do the same");
        Bench b = new Bench();
        int less = b.leaf(1);
        int minus = b.leaf(7);
        int three = b.constant(INT, 3);
        alike(b, "a bind and a fold of a constant", b.bind(less, 0, 3), b.fold(less, three), 0);
        alike(b, "a filter and a fold", b.fold(less, minus), b.filter(b.permute(less, 1, 0), 0, minus), 0);
        alike(b, "turned both ways", b.after(b.after(less, minus), minus), b.after(less, b.after(minus, minus)), 0);
        alike(b, "a catch of what never fails", b.caught(less, OWN, less), less, 0);
        alike(b, "an ensure of nothing", b.ensure(less, b.leaf(53)), less, 0);
        alike(b, "no rounds", b.loop(b.constant(INT, 0), less), b.loop(b.constant(INT, -1), less), 0);
        alike(b, "a spread of a collect", b.spread(b.collect(b.leaf(41), 1), 1), b.leaf(41), 0);
        alike(b, "a widened constant", b.widen(three, -1, LONG), b.constant(LONG, 3), 0);
        alike(b, "a drop of two", b.drop(b.drop(less, 0, INT), 0, LONG), b.drop(b.drop(less, 0, LONG), 1, INT), 0);
        alike(b, "binds of two", b.bind(b.bind(less, 0, 3), 0, 4), b.bind(b.bind(less, 1, 4), 0, 3), 0);
    }

    private static void sites() {
        C.part("a SITE is ALIKE to itself alone");
        Bench b = new Bench();
        int less = b.leaf(1);
        int plus = b.leaf(0);
        int site = b.site(less);
        int other = b.site(less);
        alike(b, "itself", site, site, 1);
        alike(b, "of the same target", site, other, 0);
        alike(b, "its target", site, less, 0);
        alike(b, "a site of it", b.site(site), site, 0);
        int over = b.bind(site, 0, 5);
        alike(b, "over one site", over, b.bind(site, 0, 5), 1);
        alike(b, "over another site", over, b.bind(other, 0, 5), 0);
        alike(b, "a permute that changes nothing", b.permute(site, 2, order(0, 1)), site, 1);
        C.done(b, "retarget", () -> b.retarget(site, plus), 1);
        alike(b, "itself, changed", site, site, 1);
        alike(b, "over it, changed", over, b.bind(site, 0, 5), 1);
        alike(b, "its new target", site, plus, 0);
        C.done(b, "retarget", () -> b.retarget(other, plus), 1);
        alike(b, "both of one target", site, other, 0);
        C.due("never quiet", b.quiet(site), 0);
        C.due("nor over it", b.quiet(over), 0);
    }

    private static void quietFunctions() {
        C.part("QUIET: which FUNCTIONS");
        for (int f = 0; f < 54; f++) {
            Bench b = new Bench();
            int h = b.leaf(f);
            int due = isLoud(f) ? 0 : 1;
            C.done(b, "function " + f, () -> b.quiet(h), due);
            C.due("over function " + f, b.quiet(b.drop(h, 0, ROW)), due);
            C.due("a site of function " + f, b.quiet(b.site(h)), 0);
        }
    }

    private static boolean isLoud(int f) {
        for (int l : new int[] {3, 4, 8, 12, 13, 40, 42, 44, 45, 46, 47, 49, 50, 51}) {
            if (f == l) {
                return true;
            }
        }
        return false;
    }

    private static void quietSorts() {
        C.part("QUIET: which sorts, and all that stand in them");
        for (int sort : new int[] {2, 3, 4, 5, 6, 7, 8, 9, 11, 12, 13, 14}) {
            boolean can = sort <= 8 || sort == 11;
            Bench b = new Bench();
            int less = b.leaf(1);
            int minus = b.leaf(7);
            int by = b.leaf(3);
            int own = b.leaf(8);
            int one = made(b, sort, less, minus);
            C.done(b, "sort " + sort, () -> b.quiet(one), can ? 1 : 0);
            int loud = made(b, sort, by, minus);
            C.done(b, "sort " + sort + " of a loud target", () -> b.quiet(loud), 0);
            int site = made(b, sort, b.site(less), minus);
            C.done(b, "sort " + sort + " of a site", () -> b.quiet(site), 0);
            if (b.about(one, 2) != NONE) {
                int other = made(b, sort, less, own);
                C.done(b, "sort " + sort + " of a loud other", () -> b.quiet(other), 0);
            }
        }
        Bench b = new Bench();
        int below = b.leaf(24);
        int plus = b.leaf(0);
        C.due("a loud third", b.quiet(b.guard(below, plus, b.leaf(3))), 0);
        C.due("a loud target", b.quiet(b.guard(below, b.leaf(3), plus)), 0);
        C.due("all are quiet", b.quiet(b.guard(below, plus, b.leaf(1))), 1);
        C.due("branches alike and loud", b.quiet(b.guard(below, b.leaf(3), b.leaf(3))), 0);
        C.due("branches alike, a loud test", b.quiet(b.guard(b.site(below), plus, plus)), 0);
        C.due("a collect", b.quiet(b.collect(b.leaf(41), 1)), 0);
        for (int kind = INT; kind <= ROW; kind++) {
            C.due("a constant", b.quiet(b.constant(kind, 1)), 1);
        }
        C.due("over a collect", b.quiet(b.bind(b.collect(b.leaf(41), 1), 0, 1)), 0);
        int nothing = b.leaf(53);
        C.due("nothing", b.quiet(nothing), 1);
        C.due("an ensure of quiet ones", b.quiet(b.ensure(plus, nothing)), 0);
        C.due("a catch of quiet ones", b.quiet(b.caught(plus, OWN, plus)), 0);
        C.due("a loop of quiet ones", b.quiet(b.loop(b.constant(INT, 1), plus)), 0);
        C.due("a site of a quiet one", b.quiet(b.site(plus)), 0);
    }

    private static void reaches() {
        C.part("REACHES: TARGET, OTHER, THIRD, and what these REACH");
        for (int sort : new int[] {2, 3, 4, 5, 6, 7, 8, 9, 11, 12, 13, 14}) {
            Bench b = new Bench();
            int less = b.leaf(1);
            int target = b.permute(less, 2, order(1, 0));
            int minus = b.leaf(7);
            int other = b.filter(minus, 0, b.leaf(8));
            int alone = b.leaf(0);
            int one = made(b, sort, target, other);
            C.done(b, "its target", () -> b.reaches(one, target), 1);
            C.done(b, "what its target reaches", () -> b.reaches(one, less), 1);
            C.done(b, "not itself", () -> b.reaches(one, one), 0);
            C.done(b, "not what reaches it", () -> b.reaches(target, one), 0);
            C.done(b, "not another one", () -> b.reaches(one, alone), 0);
            C.done(b, "nor the other way", () -> b.reaches(alone, one), 0);
            int due = b.about(one, 2) == NONE ? 0 : 1;
            C.done(b, "its other", () -> b.reaches(one, other), due);
            C.done(b, "what its other reaches", () -> b.reaches(one, minus), due);
            if (sort == 8) {
                int third = b.about(one, 3);
                C.done(b, "its third", () -> b.reaches(one, third), 1);
            }
        }
        Bench b = new Bench();
        int plus = b.leaf(0);
        int less = b.leaf(1);
        int site = b.site(plus);
        int over = b.site(site);
        C.done(b, "its target", () -> b.reaches(over, plus), 1);
        C.done(b, "a function nothing", () -> b.reaches(plus, plus), 0);
        b.retarget(site, less);
        C.done(b, "the one it has now", () -> b.reaches(over, less), 1);
        C.done(b, "not the one it had", () -> b.reaches(over, plus), 0);
        int top = sites(b, over, 110);
        C.done(b, "through 112", () -> b.reaches(top, less), 1);
        C.done(b, "the least number", () -> b.reaches(top, 0), 0);
    }

    private static void sweeps() {
        C.part("a sweep takes those that are not PINNED, nor REACHED by PINNED ones");
        Bench b = new Bench();
        C.done(b, "of none", b::sweep, 0);
        int below = b.leaf(24);
        int plus = b.leaf(0);
        int less = b.leaf(1);
        int guard = b.guard(below, plus, less);
        int site = b.site(guard);
        int bound = b.bind(site, 0, 5);
        int alone = b.leaf(7);
        row(b, 0, 5);
        b.arg(ROW, 0);
        C.done(b, "pin", () -> b.pin(bound, true), 0);
        C.done(b, "pin one within too", () -> b.pin(plus, true), 0);
        C.done(b, "it was", () -> b.pin(plus, true), 1);
        C.due("two are pinned", b.told(1), 2);
        C.done(b, "sweep", b::sweep, 1);
        C.refused(b, "it went", () -> b.arity(alone), UNKNOWN);
        C.due("the args stay", b.told(2), 1);
        for (int h : new int[] {below, plus, less, guard, site, bound}) {
            C.due("it stays", b.arity(h) >= 0 ? 1 : 0, 1);
        }
        C.done(b, "sweep again", b::sweep, 0);
        C.done(b, "no pin", () -> b.pin(bound, false), 1);
        C.done(b, "no pin again", () -> b.pin(bound, false), 0);
        C.done(b, "what only it reached goes", b::sweep, 5);
        C.due("one is left", b.told(0), 1);
        C.due("it is pinned", b.told(1), 1);
        C.done(b, "the least number", () -> b.leaf(53), 0);
        C.done(b, "it is not pinned", () -> b.pin(0, false), 0);
        C.done(b, "the next one", () -> b.site(plus), 2);
        C.done(b, "pin the site", () -> b.pin(2, true), 0);
        C.done(b, "no pin", () -> b.pin(plus, false), 1);
        C.done(b, "a pinned site keeps its target", b::sweep, 1);
        C.done(b, "another target", () -> b.retarget(2, b.leaf(1)), 1);
        C.done(b, "it keeps that one", b::sweep, 1);
        C.refused(b, "not the one it had", () -> b.arity(plus), UNKNOWN);
        C.done(b, "no pin", () -> b.pin(2, false), 1);
        C.done(b, "all go", b::sweep, 2);
        C.due("none", b.told(0), 0);
        C.due("none is pinned", b.told(1), 0);
        pinsThatGo();
    }

    private static void pinsThatGo() {
        Bench b = new Bench();
        fill(b);
        for (int h = 0; h < MOST_HANDLES; h++) {
            b.pin(h, true);
        }
        C.due("all are pinned", b.told(1), MOST_HANDLES);
        C.done(b, "none goes", b::sweep, 0);
        for (int h = 0; h < MOST_HANDLES; h++) {
            b.pin(h, false);
        }
        C.done(b, "all go", b::sweep, MOST_HANDLES);
        C.done(b, "the first one", () -> b.leaf(0), 0);
        C.done(b, "a new one is not pinned", () -> b.pin(0, false), 0);
        C.due("none is pinned", b.told(1), 0);
    }

    private static void sweepsAndForms() {
        C.part("PLAIN FORMS stay what they are over a sweep");
        Bench b = new Bench();
        row(b, 0, 5, 6);
        int sum = b.leaf(41);
        int first = b.bind(sum, 0, 0);
        int second = b.bind(sum, 0, 0);
        b.pin(second, true);
        C.done(b, "the first one goes", b::sweep, 1);
        row(b, 0, 7, 8, 9);
        C.done(b, "its number has another row", () -> b.bind(sum, 0, 0), first);
        alike(b, "another row", first, second, 0);
        row(b, 0, 5, 6);
        alike(b, "the same row", second, b.bind(sum, 0, 0), 1);
        alike(b, "the same row in another order", second, b.bind(b.leaf(41), 0, 0), 1);
        comes(b, "it comes as it was", second, 11);
        comes(b, "and so does the new one", first, 24);
        Bench p = new Bench();
        int less = p.leaf(1);
        int turned = p.permute(less, 2, 1);
        int again = p.permute(p.leaf(1), 2, 1);
        alike(p, "both", turned, again, 1);
        p.pin(again, true);
        C.done(p, "two go", p::sweep, 2);
        int back = p.permute(again, 2, 1);
        alike(p, "turned back", back, p.leaf(1), 1);
        alike(p, "turned back, its target's target", back, p.about(again, 1), 1);
    }
}
