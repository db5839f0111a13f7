/** Each promise of the document by hand: ordinary inputs, the edges that it names, and wrong inputs. */
public final class PromisesTest extends Sheet {
    private PromisesTest() {
    }

    public static void main(String[] args) {
        constants();
        boards();
        makers();
        combiners();
        rulesOfGuards();
        sites();
        arguments();
        calls();
        functions();
        sorts();
        failures();
        limits();
        tellings();
        asking();
        plainForms();
        sweeping();
        tolds();
        digests();
        C.end("PromisesTest");
    }

    private static void constants() {
        C.part("the constants and promise 1");
        C.due("BAD", CallBench.BAD, -1);
        C.due("UNKNOWN", CallBench.UNKNOWN, -2);
        C.due("FULL", CallBench.FULL, -3);
        C.due("TYPE", CallBench.TYPE, -4);
        C.due("NO", CallBench.NO, -5);
        C.due("NONE", CallBench.NONE, -6);
        Bench b = new Bench();
        for (int what = 0; what <= 4; what++) {
            C.due("told " + what, b.told(what), 0);
        }
        for (int k = 0; k < 8; k++) {
            int row = k;
            C.refused(b, "put on an empty row " + k, () -> b.put(row, 0, 1), BAD);
        }
        C.due("how", b.how(), NONE);
        C.due("failedAt", b.failedAt(), NONE);
        C.due("path", b.path(0), NONE);
        C.due("result", b.result(), 0);
        C.due("item", b.item(0), 0);
        C.due("trace", b.trace(0, 0), 0);
        for (int what = 0; what <= 6; what++) {
            C.due("spent " + what, b.spent(what), 0);
        }
        Bench made = new Bench();
        C.due("status", made.status(), 0);
        C.due("rule", made.rule(), 0);
    }

    private static void boards() {
        C.part("promises 2, 3: board, put");
        Bench b = new Bench();
        C.done(b, "board 0 64", () -> b.board(0, 64), 64);
        C.done(b, "board 7 0", () -> b.board(7, 0), 0);
        C.done(b, "board 7 3", () -> b.board(7, 3), 3);
        C.refused(b, "board -1", () -> b.board(-1, 3), BAD);
        C.refused(b, "board 8", () -> b.board(8, 3), BAD);
        C.refused(b, "board of 65", () -> b.board(0, 65), BAD);
        C.refused(b, "board of -1", () -> b.board(0, -1), BAD);
        C.done(b, "put 7 2", () -> b.put(7, 2, Long.MIN_VALUE), 1);
        C.done(b, "put 0 63", () -> b.put(0, 63, 9), 1);
        C.refused(b, "put at 3", () -> b.put(7, 3, 1), BAD);
        C.refused(b, "put at -1", () -> b.put(7, -1, 1), BAD);
        C.refused(b, "put at 64", () -> b.put(0, 64, 1), BAD);
        C.refused(b, "put on -1", () -> b.put(-1, 0, 1), BAD);
        C.refused(b, "put on 8", () -> b.put(8, 0, 1), BAD);
        int sum = b.leaf(41);
        comes(b, "sum of the board", sum, Long.MIN_VALUE, ROW, 7);
        comes(b, "sum of the first row", sum, 9, ROW, 0);
        b.board(0, 64);
        comes(b, "a row is all 0 again", sum, 0, ROW, 0);
        b.board(7, 2);
        b.board(7, 3);
        comes(b, "what was cut off is 0", sum, 0, ROW, 7);
    }

    private static void makers() {
        C.part("promise 4: leaf");
        Bench b = new Bench();
        C.refused(b, "leaf -1", () -> b.leaf(-1), BAD);
        C.refused(b, "leaf 54", () -> b.leaf(54), BAD);
        String[] types = ("ii-i ii-i ii-i ii-i ii-i ii-i ii-i i-i i-i ll-l ll-l ll-l ll-l ll-l ll-l l-l rr-r rr-r "
                + "rr-r rr-r rr-r rr-r r-r r-r ii-t ll-t rr-t ii-t ll-t rr-t ww-t ww-t t-t tt-t tt-t tii-i tll-l "
                + "tww-w too-o o-i oi-l o-l oii-o ol-i oil-o ww-w wi-w wi-i w-i -l l-n -l t-i -n").split(" ");
        for (int f = 0; f < types.length; f++) {
            int leaf = f;
            C.done(b, "leaf " + f, () -> b.leaf(leaf), f);
            int n = types[f].indexOf('-');
            int[] kinds = new int[n];
            for (int i = 0; i < n; i++) {
                kinds[i] = "ilrtwon".indexOf(types[f].charAt(i));
            }
            type(b, f, "ilrtwon".indexOf(types[f].charAt(n + 1)), kinds);
            about(b, f, 0, NONE, NONE, NONE, f);
        }
        C.due("there are 54", types.length, 54);
        fill(b);
        C.refused(b, "leaf 0, full", () -> b.leaf(0), FULL);
        C.refused(b, "leaf 54, full", () -> b.leaf(54), BAD);
        bitsOfConstants();
    }

    private static void bitsOfConstants() {
        C.part("promise 5: constant");
        Bench b = new Bench();
        long[][] good = {{INT, 5}, {INT, Integer.MIN_VALUE}, {INT, Integer.MAX_VALUE}, {LONG, Long.MIN_VALUE},
            {REAL, 0}, {REAL, real(-0.0)}, {REAL, NO_NUMBER}, {REAL, real(Double.POSITIVE_INFINITY)},
            {REAL, real(Double.NEGATIVE_INFINITY)}, {REAL, 1}, {TRUTH, 0}, {TRUTH, 1}, {WORD, 0},
            {WORD, word("a")}, {WORD, word("zzzzzzzz")}, {WORD, word("abcdefgh")}};
        for (int k = 0; k < good.length; k++) {
            long[] v = good[k];
            C.done(b, "constant " + v[0] + " " + v[1], () -> b.constant((int) v[0], v[1]), k);
            type(b, k, (int) v[0]);
            about(b, k, 1, NONE, NONE, NONE, 0);
            comes(b, "constant " + v[0] + " " + v[1], k, v[1]);
        }
        long[][] bad = {{-1, 0}, {6, 0}, {7, 0}, {INT, 1L << 31}, {INT, -(1L << 31) - 1}, {INT, Long.MAX_VALUE},
            {REAL, NO_NUMBER + 1}, {REAL, 0x7ff0000000000001L}, {REAL, 0xfff8000000000000L}, {REAL, -1},
            {TRUTH, 2}, {TRUTH, -1}, {WORD, -1}, {WORD, 27}, {WORD, 31}, {WORD, 32}, {WORD, 1 << 10 | 1},
            {WORD, word("aaaaaaaaa")}, {WORD, 1L << 40}, {WORD, Long.MIN_VALUE}, {ROW, -1}, {ROW, 8},
            {ROW, 1L << 32}};
        for (long[] v : bad) {
            C.refused(b, "constant " + v[0] + " " + v[1], () -> b.constant((int) v[0], v[1]), BAD);
            C.refused(b, "arg " + v[0] + " " + v[1], () -> b.arg((int) v[0], v[1]), BAD);
        }
        row(b, 3, 4, 5, 6);
        int had = b.constant(ROW, 3);
        row(b, 3, 1);
        comes(b, "the ROW that it was", had, 3);
        C.due("item 2", b.item(2), 6);
        C.due("item 3", b.item(3), 0);
        C.due("item -1", b.item(-1), 0);
        fill(b);
        C.refused(b, "constant, full", () -> b.constant(INT, 0), FULL);
        C.refused(b, "constant of no kind, full", () -> b.constant(6, 0), BAD);
    }

    private static void combiners() {
        C.part("promise 6: bind");
        Bench b = new Bench();
        int change = b.leaf(44);
        C.done(b, "bind", () -> b.bind(change, 1, 2), 1);
        type(b, 1, ROW, ROW, LONG);
        about(b, 1, 2, change, NONE, NONE, 1);
        C.refused(b, "bind at 3", () -> b.bind(change, 3, 0), BAD);
        C.refused(b, "bind at -1", () -> b.bind(change, -1, 0), BAD);
        C.refused(b, "bind a row 8", () -> b.bind(change, 0, 8), BAD);
        C.refused(b, "bind no int", () -> b.bind(change, 1, 1L << 40), BAD);
        C.refused(b, "bind 2", () -> b.bind(2, 0, 0), UNKNOWN);
        C.refused(b, "bind -1", () -> b.bind(-1, 9, 0), UNKNOWN);
        C.refused(b, "bind 120", () -> b.bind(120, 0, 0), UNKNOWN);
        row(b, 2, 7, 7);
        int rows = b.bind(change, 0, 2);
        b.board(2, 0);
        comes(b, "a bound ROW is what it was", rows, 2, INT, 0, LONG, 9);
        C.due("its first item", b.item(0), 9);
        C.due("its second item", b.item(1), 7);
        C.due("it stays", run(b, rows, INT, 1, LONG, 8), 0);
        C.due("its first item", b.item(0), 7);
        int less = b.leaf(1);
        comes(b, "bind 0", b.bind(less, 0, 10), 7, INT, 3);
        comes(b, "bind 1", b.bind(less, 1, 10), -7, INT, 3);
        fill(b);
        C.refused(b, "bind, full", () -> b.bind(change, 1, 2), FULL);
        C.refused(b, "bind at 3, full", () -> b.bind(change, 3, 2), BAD);
        drops();
        permutes();
        filters();
        afters();
        folds();
    }

    private static void drops() {
        C.part("promise 7: drop");
        Bench b = new Bench();
        int less = b.leaf(1);
        C.done(b, "drop at 0", () -> b.drop(less, 0, WORD), 1);
        type(b, 1, INT, WORD, INT, INT);
        about(b, 1, 3, less, NONE, NONE, 0);
        C.done(b, "drop at the end", () -> b.drop(less, 2, ROW), 2);
        type(b, 2, INT, INT, INT, ROW);
        comes(b, "drop at 0", 1, 3, WORD, word("x"), INT, 5, INT, 2);
        comes(b, "drop at 2", 2, 3, INT, 5, INT, 2, ROW, 0);
        C.refused(b, "drop at 3", () -> b.drop(less, 3, 0), BAD);
        C.refused(b, "drop at -1", () -> b.drop(less, -1, 0), BAD);
        C.refused(b, "drop of 6", () -> b.drop(less, 0, 6), BAD);
        C.refused(b, "drop of -1", () -> b.drop(less, 0, -1), BAD);
        C.refused(b, "drop of none", () -> b.drop(99, 0, 6), UNKNOWN);
        int h = less;
        for (int n = 3; n <= 6; n++) {
            h = b.drop(h, 1, TRUTH);
        }
        int wide = h;
        type(b, wide, INT, INT, TRUTH, TRUTH, TRUTH, TRUTH, INT);
        comes(b, "drop of four", wide, 3, INT, 5, TRUTH, 0, TRUTH, 1, TRUTH, 0, TRUTH, 1, INT, 2);
        C.refused(b, "drop of a seventh", () -> b.drop(wide, 6, 0), TYPE, 1);
        C.refused(b, "drop at 7", () -> b.drop(wide, 7, 0), BAD);
        fill(b);
        C.refused(b, "drop of a seventh, full", () -> b.drop(wide, 6, 0), FULL);
    }

    private static void permutes() {
        C.part("promise 8: permute");
        Bench b = new Bench();
        int item = b.leaf(44);
        int less = b.leaf(1);
        C.done(b, "permute", () -> b.permute(item, 3, 2 | 0 << 3 | 1 << 6 | 7 << 9 | 1 << 31), 2);
        type(b, 2, ROW, INT, LONG, ROW);
        about(b, 2, 4, item, NONE, NONE, 2 | 1 << 6);
        row(b, 0, 5, 6);
        comes(b, "permute", 2, 2, INT, 1, LONG, 8, ROW, 0);
        C.due("item 1", b.item(1), 8);
        C.done(b, "permute to one", () -> b.permute(less, 1, 0), 3);
        type(b, 3, INT, INT);
        comes(b, "a - a", 3, 0, INT, 17);
        comes(b, "b - a", b.permute(less, 2, 1), -4, INT, 7, INT, 3);
        C.refused(b, "permute of 7", () -> b.permute(item, 7, 0), BAD);
        C.refused(b, "permute of -1", () -> b.permute(item, -1, 0), BAD);
        C.refused(b, "permute of none", () -> b.permute(77, -1, 0), UNKNOWN);
        C.refused(b, "a number not below n", () -> b.permute(item, 3, 3 | 3 << 3 | 0 << 6), TYPE, 1);
        C.refused(b, "two kinds take the same", () -> b.permute(item, 3, 0 | 0 << 3 | 2 << 6), TYPE, 2);
        C.refused(b, "and one is not taken", () -> b.permute(item, 6, 0 | 0 << 3 | 2 << 6), TYPE, 2);
        C.refused(b, "one is not taken", () -> b.permute(item, 4, 0 | 1 << 3 | 2 << 6), TYPE, 3);
        C.refused(b, "all is wrong", () -> b.permute(item, 1, 0 | 0 << 3 | 2 << 6), TYPE, 1);
        int none = b.leaf(49);
        C.done(b, "of no parameters", () -> b.permute(none, 0, -1), none + 1);
        about(b, none + 1, 4, none, NONE, NONE, 0);
        C.refused(b, "of no parameters one", () -> b.permute(none, 1, 0), TYPE, 3);
        C.refused(b, "to none", () -> b.permute(less, 0, 0), TYPE, 1);
        fill(b);
        C.refused(b, "permute, full", () -> b.permute(item, 1, 3), FULL);
        C.refused(b, "permute of 7, full", () -> b.permute(item, 7, 3), BAD);
    }

    private static void filters() {
        C.part("promise 9: filter");
        Bench b = new Bench();
        int less = b.leaf(1);
        int letters = b.leaf(48);
        int own = b.leaf(8);
        int wide = b.leaf(0);
        int sum = b.leaf(41);
        C.done(b, "filter", () -> b.filter(less, 1, letters), 5);
        type(b, 5, INT, INT, WORD);
        about(b, 5, 5, less, letters, NONE, 1);
        comes(b, "filter", 5, 7, INT, 10, WORD, word("abc"));
        C.due("the filter is first", b.trace(0, 0), letters);
        C.due("then the target", b.trace(1, 0), less);
        comes(b, "filter at 0", b.filter(less, 0, letters), -7, WORD, word("abc"), INT, 10);
        C.refused(b, "filter at 2", () -> b.filter(less, 2, letters), BAD);
        C.refused(b, "filter at -1", () -> b.filter(less, -1, letters), BAD);
        C.refused(b, "filter of none", () -> b.filter(66, 0, letters), UNKNOWN);
        C.refused(b, "filter by none", () -> b.filter(less, 9, 66), UNKNOWN);
        C.refused(b, "filter by two", () -> b.filter(less, 0, wide), TYPE, 1);
        C.refused(b, "filter by another kind", () -> b.filter(less, 0, sum), TYPE, 2);
        fails(b, "the filter fails", b.filter(less, 0, own), 6, own, INT, 3, INT, 0);
        C.due("the target is not begun", b.spent(1), 1);
        int note = b.leaf(50);
        C.refused(b, "filter by nothing", () -> b.filter(less, 0, note), TYPE, 2);
        fill(b);
        C.refused(b, "filter, full", () -> b.filter(less, 0, wide), FULL);
    }

    private static void afters() {
        C.part("promise 10: after");
        Bench b = new Bench();
        int letters = b.leaf(48);
        int minus = b.leaf(7);
        int note = b.leaf(50);
        int tell = b.leaf(51);
        int plus = b.leaf(0);
        int real = b.leaf(23);
        C.done(b, "after", () -> b.after(letters, minus), 6);
        type(b, 6, INT, WORD);
        about(b, 6, 6, letters, minus, NONE, 0);
        comes(b, "after", 6, -3, WORD, word("abc"));
        C.done(b, "after nothing", () -> b.after(note, tell), 7);
        type(b, 7, LONG, LONG);
        comes(b, "after nothing", 7, 33, LONG, 33);
        C.refused(b, "after by two", () -> b.after(letters, plus), TYPE, 1);
        C.refused(b, "after by none", () -> b.after(letters, tell), TYPE, 1);
        C.refused(b, "after nothing by one", () -> b.after(note, minus), TYPE, 1);
        C.refused(b, "after by another kind", () -> b.after(letters, real), TYPE, 2);
        C.refused(b, "after of no handle", () -> b.after(88, minus), UNKNOWN);
        C.refused(b, "after by no handle", () -> b.after(letters, 88), UNKNOWN);
        int gives = b.constant(LONG, 5);
        int noted = b.after(gives, note);
        type(b, noted, NOTHING);
        comes(b, "after to nothing", noted, 0);
        C.due("the note", b.spent(6), 5);
        fill(b);
        C.refused(b, "after, full", () -> b.after(letters, plus), FULL);
    }

    private static void folds() {
        C.part("promise 11: fold");
        Bench b = new Bench();
        int item = b.leaf(44);
        int part = b.leaf(42);
        int less = b.leaf(1);
        int minus = b.leaf(7);
        int note = b.leaf(50);
        int tell = b.leaf(51);
        int letters = b.leaf(48);
        C.done(b, "fold", () -> b.fold(less, minus), 7);
        type(b, 7, INT, INT);
        about(b, 7, 7, less, minus, NONE, 0);
        comes(b, "-a - a", 7, -10, INT, 5);
        int longs = b.leaf(10);
        C.done(b, "fold of nothing", () -> b.fold(longs, note), 9);
        type(b, 9, LONG, LONG, LONG);
        comes(b, "fold of nothing", 9, 4, LONG, 6, LONG, 2);
        C.due("the note", b.spent(6), 6);
        C.done(b, "fold by no parameters", () -> b.fold(longs, tell), 10);
        type(b, 10, LONG, LONG);
        comes(b, "note - a", 10, 5, LONG, 1);
        C.refused(b, "no first one", () -> b.fold(tell, minus), TYPE, 1);
        C.refused(b, "another first one", () -> b.fold(longs, minus), TYPE, 1);
        C.refused(b, "both rules", () -> b.fold(item, letters), TYPE, 1);
        C.refused(b, "not the first ones left", () -> b.fold(item, part), TYPE, 2);
        C.refused(b, "not the first ones left of one", () -> b.fold(less, letters), TYPE, 2);
        C.refused(b, "nothing, not the first ones", () -> b.fold(less, note), TYPE, 2);
        C.refused(b, "more than are left", () -> b.fold(less, less), TYPE, 2);
        C.refused(b, "fold of no handle", () -> b.fold(88, less), UNKNOWN);
        C.refused(b, "fold by no handle", () -> b.fold(less, 88), UNKNOWN);
        fill(b);
        C.refused(b, "fold, full", () -> b.fold(less, less), FULL);
    }

    private static void rulesOfGuards() {
        C.part("promise 12: guard");
        Bench b = new Bench();
        int plus = b.leaf(0);
        int less = b.leaf(1);
        int below = b.leaf(24);
        int wordLess = b.leaf(31);
        int minus = b.leaf(7);
        int not = b.leaf(32);
        int always = b.constant(TRUTH, 1);
        int same = b.leaf(27);
        C.done(b, "guard", () -> b.guard(below, plus, less), 8);
        type(b, 8, INT, INT, INT);
        about(b, 8, 8, plus, below, less, 0);
        comes(b, "yes", 8, 7, INT, 3, INT, 4);
        C.due("the test is first", b.trace(0, 0), below);
        C.due("then yes", b.trace(1, 0), plus);
        comes(b, "no", 8, 1, INT, 4, INT, 3);
        C.due("then no", b.trace(1, 0), less);
        comes(b, "a test of none", b.guard(always, plus, less), 7, INT, 4, INT, 3);
        C.refused(b, "another number", () -> b.guard(below, plus, minus), TYPE, 1);
        C.refused(b, "another result", () -> b.guard(below, plus, same), TYPE, 1);
        C.refused(b, "no truth", () -> b.guard(plus, plus, less), TYPE, 2);
        C.refused(b, "not the first ones", () -> b.guard(wordLess, plus, less), TYPE, 3);
        C.refused(b, "too many", () -> b.guard(below, minus, minus), TYPE, 3);
        C.refused(b, "rule 1 ahead of 2", () -> b.guard(plus, plus, minus), TYPE, 1);
        C.refused(b, "rule 2 ahead of 3", () -> b.guard(plus, minus, minus), TYPE, 2);
        C.refused(b, "no test", () -> b.guard(88, plus, less), UNKNOWN);
        C.refused(b, "no yes", () -> b.guard(below, 88, less), UNKNOWN);
        C.refused(b, "no no", () -> b.guard(below, plus, 88), UNKNOWN);
        int prefix = b.guard(not, b.leaf(35), b.leaf(35));
        comes(b, "the first ones alone", prefix, 9, TRUTH, 0, INT, 8, INT, 9);
        fill(b);
        C.refused(b, "guard, full", () -> b.guard(plus, plus, minus), FULL);
        spreads();
        collects();
        widens();
        loops();
        catches();
        ensures();
    }

    private static void spreads() {
        C.part("promise 13: spread");
        Bench b = new Bench();
        int less = b.leaf(10);
        int choose = b.leaf(36);
        int ints = b.leaf(0);
        int none = b.leaf(49);
        C.done(b, "spread 2", () -> b.spread(less, 2), 4);
        type(b, 4, LONG, ROW);
        about(b, 4, 9, less, NONE, NONE, 2);
        row(b, 0, 9, 4);
        row(b, 1, 9);
        row(b, 2, 9, 4, 1);
        comes(b, "spread 2", 4, 5, ROW, 0);
        fails(b, "too few items", 4, 2, 4, ROW, 1);
        fails(b, "too many items", 4, 2, 4, ROW, 2);
        C.due("no function", b.spent(1), 0);
        C.done(b, "spread 1", () -> b.spread(choose, 1), 5);
        type(b, 5, LONG, TRUTH, LONG, ROW);
        comes(b, "spread 1", 5, 9, TRUTH, 0, LONG, 2, ROW, 1);
        C.done(b, "spread 0", () -> b.spread(none, 0), 6);
        type(b, 6, LONG, ROW);
        comes(b, "spread 0", 6, 1, ROW, 7);
        fails(b, "an item for none", 6, 2, 6, ROW, 1);
        C.refused(b, "spread 3 of 3", () -> b.spread(choose, 3), TYPE, 1);
        C.refused(b, "spread 3 of 2", () -> b.spread(less, 3), TYPE, 1);
        C.refused(b, "spread of ints", () -> b.spread(ints, 1), TYPE, 1);
        C.refused(b, "spread -1", () -> b.spread(less, -1), BAD);
        C.refused(b, "spread 7", () -> b.spread(less, 7), BAD);
        C.refused(b, "spread of no handle", () -> b.spread(77, 7), UNKNOWN);
        int h = less;
        while (b.arity(h) < 6) {
            h = b.drop(h, 0, INT);
        }
        int six = h;
        C.refused(b, "spread 0 of 6", () -> b.spread(six, 0), TYPE, 2);
        int one = b.spread(six, 1);
        type(b, one, LONG, INT, INT, INT, INT, LONG, ROW);
        comes(b, "spread 1 of 6", one, -6, INT, 0, INT, 0, INT, 0, INT, 0, LONG, 3, ROW, 1);
        fill(b);
        C.refused(b, "spread, full", () -> b.spread(ints, 1), FULL);
        C.refused(b, "spread 7, full", () -> b.spread(ints, 7), BAD);
    }

    private static void collects() {
        C.part("promise 14: collect");
        Bench b = new Bench();
        int sum = b.leaf(41);
        int select = b.leaf(38);
        int item = b.leaf(40);
        int none = b.leaf(49);
        C.done(b, "collect 3", () -> b.collect(sum, 3), 4);
        type(b, 4, LONG, LONG, LONG, LONG);
        about(b, 4, 10, sum, NONE, NONE, 3);
        comes(b, "collect 3", 4, 111, LONG, 1, LONG, 10, LONG, 100);
        C.due("rows made", b.spent(2), 1);
        C.due("items made", b.spent(3), 3);
        C.due("the trace tells how many", b.trace(0, 3), 3);
        C.done(b, "collect 0", () -> b.collect(sum, 0), 5);
        type(b, 5, LONG);
        comes(b, "collect 0", 5, 0);
        C.due("an empty row is made", b.spent(2), 1);
        C.due("without items", b.spent(3), 0);
        C.done(b, "collect 4", () -> b.collect(select, 4), 6);
        type(b, 6, ROW, TRUTH, ROW, LONG, LONG, LONG, LONG);
        C.due("call", run(b, 6, TRUTH, 0, ROW, 0, LONG, 4, LONG, 3, LONG, 2, LONG, 1), 0);
        C.due("how many", b.result(), 4);
        C.due("first", b.item(0), 4);
        C.due("last", b.item(3), 1);
        C.refused(b, "collect 5", () -> b.collect(select, 5), TYPE, 2);
        C.refused(b, "not a row at last", () -> b.collect(item, 1), TYPE, 1);
        C.refused(b, "of no parameters", () -> b.collect(none, 1), TYPE, 1);
        C.refused(b, "collect 7", () -> b.collect(sum, 7), BAD);
        C.refused(b, "collect -1", () -> b.collect(sum, -1), BAD);
        C.refused(b, "collect of no handle", () -> b.collect(77, 7), UNKNOWN);
        C.done(b, "collect 6", () -> b.collect(sum, 6), 7);
        fill(b);
        C.refused(b, "collect, full", () -> b.collect(none, 1), FULL);
    }

    private static void widens() {
        C.part("promise 15: widen");
        Bench b = new Bench();
        int reals = b.leaf(17);
        int longs = b.leaf(10);
        int ints = b.leaf(1);
        int note = b.leaf(50);
        int words = b.leaf(45);
        C.done(b, "int for a real", () -> b.widen(reals, 0, INT), 5);
        type(b, 5, REAL, INT, REAL);
        about(b, 5, 11, reals, NONE, NONE, 0);
        comes(b, "int for a real", 5, real(4.5), INT, 5, REAL, real(0.5));
        C.done(b, "long for a real", () -> b.widen(reals, 1, LONG), 6);
        comes(b, "long for a real", 6, real(-9007199254740992.0), REAL, 0, LONG, 9007199254740993L);
        comes(b, "to the even one", 6, real(-9007199254740996.0), REAL, 0, LONG, 9007199254740995L);
        comes(b, "the least long", 6, real(9223372036854775808.0), REAL, 0, LONG, Long.MIN_VALUE);
        comes(b, "the greatest long", 6, real(-9223372036854775808.0), REAL, 0, LONG, Long.MAX_VALUE);
        C.done(b, "int for a long", () -> b.widen(longs, 0, INT), 7);
        comes(b, "int for a long", 7, -8, INT, -5, LONG, 3);
        C.done(b, "a result to a long", () -> b.widen(ints, -1, LONG), 8);
        type(b, 8, LONG, INT, INT);
        about(b, 8, 11, ints, NONE, NONE, -1);
        comes(b, "a result to a long wraps before", 8, Integer.MAX_VALUE, INT, Integer.MIN_VALUE, INT, 1);
        C.done(b, "a result to a real", () -> b.widen(ints, -1, REAL), 9);
        comes(b, "a result to a real", 9, real(-2), INT, 1, INT, 3);
        C.done(b, "a long result to a real", () -> b.widen(longs, -1, REAL), 10);
        comes(b, "a long result to a real", 10, real(1e18), LONG, 1000000000000000001L, LONG, 0);
        C.done(b, "a result that is so", () -> b.widen(ints, -1, INT), ints);
        C.done(b, "a parameter that is so", () -> b.widen(words, 1, WORD), words);
        C.refused(b, "a narrower result", () -> b.widen(longs, -1, INT), TYPE, 1);
        C.refused(b, "a real result", () -> b.widen(reals, -1, LONG), TYPE, 1);
        C.refused(b, "a long for an int", () -> b.widen(ints, 0, LONG), TYPE, 1);
        C.refused(b, "a real for a long", () -> b.widen(longs, 0, REAL), TYPE, 1);
        C.refused(b, "a truth for an int", () -> b.widen(ints, 0, TRUTH), TYPE, 1);
        C.refused(b, "nothing", () -> b.widen(note, -1, LONG), TYPE, 1);
        C.refused(b, "at 2", () -> b.widen(ints, 2, INT), BAD);
        C.refused(b, "at -2", () -> b.widen(ints, -2, INT), BAD);
        C.refused(b, "to nothing", () -> b.widen(note, -1, NOTHING), BAD);
        C.refused(b, "to -1", () -> b.widen(ints, 0, -1), BAD);
        C.refused(b, "of no handle", () -> b.widen(77, 0, -1), UNKNOWN);
        fill(b);
        C.refused(b, "widen, full", () -> b.widen(ints, 0, LONG), FULL);
        C.done(b, "so already, full", () -> b.widen(ints, 0, INT), ints);
    }

    private static void loops() {
        C.part("promise 16: loop");
        Bench b = new Bench();
        int less = b.leaf(1);
        int minus = b.leaf(7);
        int choose = b.leaf(35);
        int letters = b.leaf(48);
        int item = b.leaf(44);
        int wi = b.leaf(46);
        int three = b.constant(INT, 3);
        C.done(b, "loop", () -> b.loop(three, less), 7);
        type(b, 7, INT, INT);
        about(b, 7, 12, less, three, NONE, 0);
        comes(b, "10 - 0 - 1 - 2", 7, 7, INT, 10);
        C.done(b, "loop with more", () -> b.loop(minus, b.drop(less, 2, INT)), 9);
        type(b, 9, INT, INT, INT);
        comes(b, "the count is of those behind", 9, 9, INT, 10, INT, -2);
        comes(b, "no rounds", 9, 10, INT, 10, INT, 0);
        comes(b, "rounds below 1", 9, 10, INT, 10, INT, 5);
        int words = b.loop(b.constant(INT, 1), wi);
        type(b, words, WORD, WORD);
        comes(b, "a word in a loop", words, word(""), WORD, word("abcd"));
        row(b, 0, 5, 5, 5);
        int rows = b.loop(three, item);
        type(b, rows, ROW, ROW, LONG);
        comes(b, "rows in a loop", rows, 3, ROW, 0, LONG, 8);
        C.due("each item", b.item(0) + b.item(1) + b.item(2), 24);
        C.refused(b, "no int to count", () -> b.loop(item, less), TYPE, 1);
        C.refused(b, "one parameter", () -> b.loop(three, minus), TYPE, 2);
        C.refused(b, "another result", () -> b.loop(three, choose), TYPE, 2);
        int longs = b.leaf(9);
        C.refused(b, "no int at second", () -> b.loop(three, longs), TYPE, 2);
        C.refused(b, "not the first ones behind", () -> b.loop(letters, item), TYPE, 3);
        C.refused(b, "more than behind", () -> b.loop(minus, less), TYPE, 3);
        C.refused(b, "rule 1 ahead", () -> b.loop(item, minus), TYPE, 1);
        C.refused(b, "rule 2 ahead", () -> b.loop(minus, minus), TYPE, 2);
        C.refused(b, "no count", () -> b.loop(77, less), UNKNOWN);
        C.refused(b, "no body", () -> b.loop(three, 77), UNKNOWN);
        fill(b);
        C.refused(b, "loop, full", () -> b.loop(item, less), FULL);
    }

    private static void catches() {
        C.part("promise 17: caught");
        Bench b = new Bench();
        int by = b.leaf(3);
        int minus = b.leaf(7);
        int nine = b.constant(INT, 9);
        int longs = b.constant(LONG, 9);
        int letters = b.leaf(48);
        C.done(b, "caught", () -> b.caught(by, 1, minus), 5);
        type(b, 5, INT, INT, INT);
        about(b, 5, 13, by, minus, NONE, 1);
        comes(b, "nothing to catch", 5, 4, INT, 8, INT, 2);
        comes(b, "caught", 5, -8, INT, 8, INT, 0);
        C.due("one failure", b.spent(4), 1);
        C.due("no path", b.told(3), 0);
        fails(b, "another kind", b.caught(by, 2, minus), 1, by, INT, 8, INT, 0);
        C.due("its path", b.path(1), 6);
        for (int kind : new int[] {-1, 0, 4, 5, 7, 8}) {
            C.refused(b, "caught of " + kind, () -> b.caught(by, kind, longs), BAD);
        }
        for (int kind : new int[] {1, 2, 3, 6}) {
            C.refused(b, "another result, " + kind, () -> b.caught(by, kind, longs), TYPE, 1);
        }
        C.refused(b, "not the first ones", () -> b.caught(by, 1, letters), TYPE, 2);
        C.refused(b, "more", () -> b.caught(minus, 1, by), TYPE, 2);
        C.refused(b, "no handle", () -> b.caught(77, 9, minus), UNKNOWN);
        C.refused(b, "no other", () -> b.caught(by, 9, 77), UNKNOWN);
        comes(b, "of no parameters", b.caught(by, 1, nine), 9, INT, 1, INT, 0);
        fill(b);
        C.refused(b, "caught, full", () -> b.caught(by, 1, longs), FULL);
        C.refused(b, "caught of 4, full", () -> b.caught(by, 4, longs), BAD);
    }

    private static void ensures() {
        C.part("promise 18: ensure");
        Bench b = new Bench();
        int by = b.leaf(12);
        int note = b.leaf(50);
        int nothing = b.leaf(53);
        int ints = b.leaf(0);
        C.done(b, "ensure", () -> b.ensure(by, note), 4);
        type(b, 4, LONG, LONG, LONG);
        about(b, 4, 14, by, note, NONE, 0);
        comes(b, "it came", 4, 4, LONG, 8, LONG, 2);
        C.due("the note", b.spent(6), 8);
        fails(b, "it failed", 4, 1, by, LONG, 7, LONG, 0);
        C.due("the note", b.spent(6), 7);
        C.due("its path", b.path(1), 4);
        C.refused(b, "a result", () -> b.ensure(by, by), TYPE, 1);
        C.refused(b, "rule 1 ahead", () -> b.ensure(by, ints), TYPE, 1);
        C.refused(b, "not the first ones", () -> b.ensure(ints, note), TYPE, 2);
        C.refused(b, "more", () -> b.ensure(nothing, note), TYPE, 2);
        C.refused(b, "no handle", () -> b.ensure(77, note), UNKNOWN);
        C.refused(b, "no other", () -> b.ensure(by, 77), UNKNOWN);
        C.done(b, "ensure nothing", () -> b.ensure(nothing, nothing), 5);
        comes(b, "ensure nothing", 5, 0);
        fill(b);
        C.refused(b, "ensure, full", () -> b.ensure(by, by), FULL);
    }

    private static void sites() {
        C.part("promises 19, 20: site, retarget");
        Bench b = new Bench();
        int plus = b.leaf(0);
        int less = b.leaf(1);
        int minus = b.leaf(7);
        C.done(b, "site", () -> b.site(plus), 3);
        type(b, 3, INT, INT, INT);
        about(b, 3, 15, plus, NONE, NONE, 0);
        comes(b, "site", 3, 12, INT, 7, INT, 5);
        C.done(b, "retarget", () -> b.retarget(3, less), 1);
        comes(b, "changed", 3, 2, INT, 7, INT, 5);
        about(b, 3, 15, less, NONE, NONE, 1);
        C.done(b, "retarget to the same", () -> b.retarget(3, less), 2);
        about(b, 3, 15, less, NONE, NONE, 2);
        int over = b.permute(3, 2, 1);
        C.refused(b, "to itself", () -> b.retarget(3, 3), NO);
        C.refused(b, "to one that reaches it", () -> b.retarget(3, over), NO);
        C.refused(b, "another type", () -> b.retarget(3, minus), TYPE, 1);
        int typed = b.filter(3, 0, b.leaf(48));
        C.refused(b, "another type that reaches it", () -> b.retarget(3, typed), TYPE, 1);
        C.refused(b, "no site", () -> b.retarget(plus, minus), BAD);
        C.refused(b, "no handle s", () -> b.retarget(77, plus), UNKNOWN);
        C.refused(b, "no handle h", () -> b.retarget(plus, 77), UNKNOWN);
        C.refused(b, "site of none", () -> b.site(-1), UNKNOWN);
        int second = b.site(3);
        C.done(b, "a site to what it reached", () -> b.retarget(second, plus), 1);
        C.done(b, "then the first one to it", () -> b.retarget(3, second), 3);
        comes(b, "both", over, 12, INT, 7, INT, 5);
        C.refused(b, "back", () -> b.retarget(second, 3), NO);
        fill(b);
        C.refused(b, "site, full", () -> b.site(plus), FULL);
        C.done(b, "retarget, full", () -> b.retarget(3, plus), 4);
    }

    private static void arguments() {
        C.part("promises 21, 22: arg, noArgs");
        Bench b = new Bench();
        C.done(b, "noArgs", b::noArgs, 0);
        row(b, 0, 1, 2, 3);
        long[][] args = {{INT, 1}, {LONG, 2}, {REAL, NO_NUMBER}, {TRUTH, 1}, {WORD, word("hi")}, {ROW, 0}};
        for (int i = 0; i < args.length; i++) {
            long[] v = args[i];
            C.done(b, "arg " + i, () -> b.arg((int) v[0], v[1]), i + 1);
        }
        C.refused(b, "a seventh", () -> b.arg(INT, 1), FULL);
        C.refused(b, "a seventh, bad", () -> b.arg(TRUTH, 2), BAD);
        C.due("told", b.told(2), 6);
        C.done(b, "noArgs", b::noArgs, 6);
        C.due("told", b.told(2), 0);
        int sum = b.leaf(41);
        b.arg(ROW, 0);
        row(b, 0, 100);
        C.due("the ROW that it was", b.call(sum), 0);
        C.due("its sum", b.result(), 6);
        manyRows();
    }

    /** Each HANDLE and each ARG has a ROW of its own, as many as there can be. */
    private static void manyRows() {
        Bench b = new Bench();
        row(b, 1, 5, 6);
        b.constant(ROW, 1);
        int last = b.leaf(40);
        for (int k = 2; k < 120; k++) {
            b.put(1, 0, k);
            b.bind(last, 0, 1);
        }
        for (int k = 0; k < 6; k++) {
            row(b, k, 1000 + k, 7, 7);
            b.arg(ROW, k);
        }
        C.refused(b, "call with six", () -> b.call(119), TYPE, 1);
        b.noArgs();
        for (int k = 2; k < 120; k += 3) {
            comes(b, "the first item of " + k, k, k, INT, 0);
        }
        comes(b, "the first one", 0, 2);
        C.due("its first item", b.item(0), 5);
        C.due("its second item", b.item(1), 6);
        Bench six = new Bench();
        int choose = six.leaf(38);
        int first = six.drop(six.drop(six.drop(choose, 3, ROW), 3, ROW), 3, ROW);
        for (int k = 0; k < 5; k++) {
            row(six, k, k, k);
        }
        comes(six, "the first of five rows", first, 2, TRUTH, 1, ROW, 0, ROW, 1, ROW, 2, ROW, 3, ROW, 4);
        C.due("its item", six.item(1), 0);
        comes(six, "the second of five rows", first, 2, TRUTH, 0, ROW, 0, ROW, 1, ROW, 2, ROW, 3, ROW, 4);
        C.due("its item", six.item(1), 1);
        Bench zero = new Bench();
        row(zero, 0, 8);
        zero.constant(ROW, 0);
        comes(zero, "item 0 of handle 0", zero.after(0, zero.bind(zero.leaf(40), 1, 0)), 8);
    }

    private static void calls() {
        C.part("promises 23 to 28: call, how, result, item, failedAt, path");
        Bench b = new Bench();
        int by = b.leaf(3);
        int same = b.leaf(27);
        int choose = b.leaf(38);
        int nothing = b.leaf(53);
        C.refused(b, "call of none", () -> b.call(9), UNKNOWN);
        C.refused(b, "call with none", () -> b.call(by), TYPE, 1);
        b.arg(LONG, 5);
        C.refused(b, "too few, and another kind", () -> b.call(by), TYPE, 1);
        b.arg(INT, 5);
        C.refused(b, "another kind", () -> b.call(by), TYPE, 2);
        C.refused(b, "too many", () -> b.call(nothing), TYPE, 1);
        C.due("how is as before", b.how(), NONE);
        b.noArgs();
        C.done(b, "nothing", () -> b.call(nothing), 0);
        C.due("how", b.how(), 0);
        b.arg(INT, 5);
        b.arg(INT, 5);
        C.done(b, "the same", () -> b.call(same), 0);
        C.due("result", b.result(), 1);
        C.due("the args are gone", b.told(2), 0);
        b.arg(INT, 5);
        b.arg(INT, 0);
        C.done(b, "by 0", () -> b.call(by), 1);
        C.due("the args are gone", b.told(2), 0);
        C.due("how", b.how(), 1);
        C.due("result", b.result(), 0);
        C.due("failedAt", b.failedAt(), by);
        C.due("path 0", b.path(0), by);
        C.due("path 1", b.path(1), NONE);
        C.due("path -1", b.path(-1), NONE);
        C.due("told 3", b.told(3), 1);
        C.refused(b, "a refused call leaves it", () -> b.call(by), TYPE, 1);
        row(b, 0, 11, 12, 13);
        C.due("a row", run(b, choose, TRUTH, 1, ROW, 0, ROW, 1), 0);
        row(b, 0, 1);
        C.due("how many", b.result(), 3);
        C.due("item 0", b.item(0), 11);
        C.due("item 2", b.item(2), 13);
        C.due("item 3", b.item(3), 0);
        C.due("item -1", b.item(-1), 0);
        C.due("failedAt", b.failedAt(), NONE);
        C.due("path 0", b.path(0), NONE);
        run(b, same, INT, 1, INT, 2);
        C.due("no row came", b.item(0), 0);
        run(b, choose, TRUTH, 1, ROW, 0, ROW, 1);
        C.due("a row again", b.item(0), 1);
        run(b, by, INT, 1, INT, 0);
        C.due("it failed", b.item(0), 0);
    }

    private static void functions() {
        C.part("the functions");
        intFunctions(eachLeaf());
        longFunctions(eachLeaf());
        truthFunctions(eachLeaf());
        rowFunctions(eachLeaf());
        wordFunctions(eachLeaf());
        stateFunctions(eachLeaf());
    }

    /** Each FUNCTION has the HANDLE of its number. */
    private static Bench eachLeaf() {
        Bench b = new Bench();
        for (int f = 0; f < 54; f++) {
            b.leaf(f);
        }
        return b;
    }

    private static void intFunctions(Bench b) {
        int min = Integer.MIN_VALUE;
        int max = Integer.MAX_VALUE;
        ints(b, 0, max, 1, min);
        ints(b, 1, min, 1, max);
        ints(b, 2, 65536, 65537, 65536);
        ints(b, 3, -7, 2, -3);
        ints(b, 3, min, -1, min);
        ints(b, 4, -7, 2, -1);
        ints(b, 4, min, -1, 0);
        ints(b, 5, 12, 10, 8);
        ints(b, 6, 12, -10, 12 ^ -10);
        ints(b, 24, -1, 0, 1);
        ints(b, 24, 0, 0, 0);
        ints(b, 27, 3, 3, 1);
        ints(b, 27, 3, 4, 0);
        fails(b, "3 by 0", 3, 1, 3, INT, 7, INT, 0);
        fails(b, "4 by 0", 4, 1, 4, INT, 0, INT, 0);
        comes(b, "7", 7, min, INT, min);
        comes(b, "7", 7, -5, INT, 5);
        comes(b, "8 of 0", 8, 0, INT, 0);
        fails(b, "8 of 1", 8, 6, 8, INT, 1);
    }

    private static void longFunctions(Bench b) {
        long least = Long.MIN_VALUE;
        longs(b, 9, Long.MAX_VALUE, 1, least);
        longs(b, 10, least, 1, Long.MAX_VALUE);
        longs(b, 11, 1L << 62, 6, least);
        longs(b, 12, -7, 2, -3);
        longs(b, 12, least, -1, least);
        longs(b, 13, -7, 2, -1);
        longs(b, 13, least, -1, 0);
        longs(b, 14, 12, -10, 12 ^ -10);
        longs(b, 25, least, 0, 1);
        longs(b, 25, 1L << 33, 1L << 32, 0);
        longs(b, 28, 1L << 33, 1L << 32, 0);
        longs(b, 28, least, least, 1);
        fails(b, "12 by 0", 12, 1, 12, LONG, 7, LONG, 0);
        fails(b, "13 by 0", 13, 1, 13, LONG, 7, LONG, 0);
        comes(b, "15", 15, least, LONG, least);
    }

    private static void truthFunctions(Bench b) {
        for (int k = 0; k < 4; k++) {
            comes(b, "33", 33, k == 3 ? 1 : 0, TRUTH, k >> 1, TRUTH, k & 1);
            comes(b, "34", 34, k > 0 ? 1 : 0, TRUTH, k >> 1, TRUTH, k & 1);
        }
        comes(b, "32 of 0", 32, 1, TRUTH, 0);
        comes(b, "32 of 1", 32, 0, TRUTH, 1);
        comes(b, "52 of 1", 52, 1, TRUTH, 1);
        comes(b, "52 of 0", 52, 0, TRUTH, 0);
        comes(b, "35", 35, 4, TRUTH, 1, INT, 4, INT, 5);
        comes(b, "35", 35, 5, TRUTH, 0, INT, 4, INT, 5);
        comes(b, "36", 36, 4, TRUTH, 1, LONG, 4, LONG, 5);
        comes(b, "36", 36, 5, TRUTH, 0, LONG, 4, LONG, 5);
        comes(b, "37", 37, 4, TRUTH, 1, WORD, 4, WORD, 5);
        comes(b, "37", 37, 5, TRUTH, 0, WORD, 4, WORD, 5);
    }

    private static void ints(Bench b, int f, int x, int y, long due) {
        comes(b, f + " of " + x + " " + y, f, due, INT, x, INT, y);
    }

    private static void longs(Bench b, int f, long x, long y, long due) {
        comes(b, f + " of " + x + " " + y, f, due, LONG, x, LONG, y);
    }

    private static void rowFunctions(Bench b) {
        row(b, 0, 10, 20, 30, 20);
        row(b, 1);
        b.board(2, 64);
        comes(b, "38", 38, 0, TRUTH, 0, ROW, 0, ROW, 1);
        comes(b, "38", 38, 4, TRUTH, 1, ROW, 0, ROW, 1);
        comes(b, "39", 39, 4, ROW, 0);
        comes(b, "39 of none", 39, 0, ROW, 1);
        comes(b, "39 of 64", 39, 64, ROW, 2);
        comes(b, "40", 40, 30, ROW, 0, INT, 2);
        fails(b, "40 at 4", 40, 2, 40, ROW, 0, INT, 4);
        fails(b, "40 at -1", 40, 2, 40, ROW, 0, INT, -1);
        comes(b, "41", 41, 80, ROW, 0);
        comes(b, "42", 42, 2, ROW, 0, INT, 1, INT, 3);
        C.due("first", b.item(0), 20);
        C.due("last", b.item(1), 30);
        C.due("rows", b.spent(2), 1);
        C.due("items", b.spent(3), 2);
        comes(b, "42 of none", 42, 0, ROW, 0, INT, 4, INT, 4);
        C.due("rows", b.spent(2), 1);
        comes(b, "42 of all", 42, 4, ROW, 0, INT, 0, INT, 4);
        fails(b, "42 from -1", 42, 2, 42, ROW, 0, INT, -1, INT, 3);
        fails(b, "42 turned", 42, 2, 42, ROW, 0, INT, 3, INT, 2);
        fails(b, "42 to 5", 42, 2, 42, ROW, 0, INT, 4, INT, 5);
        C.due("rows", b.spent(2), 0);
        comes(b, "43", 43, 1, ROW, 0, LONG, 20);
        comes(b, "43 without", 43, -1, ROW, 0, LONG, 21);
        comes(b, "43 of none", 43, -1, ROW, 1, LONG, 0);
        comes(b, "44", 44, 4, ROW, 0, INT, 3, LONG, -1);
        C.due("first", b.item(0), 10);
        C.due("last", b.item(3), -1);
        C.due("items", b.spent(3), 4);
        comes(b, "it was not changed", 41, 80, ROW, 0);
        fails(b, "44 at 4", 44, 2, 44, ROW, 0, INT, 4, LONG, 1);
        fails(b, "44 at -1", 44, 2, 44, ROW, 0, INT, -1, LONG, 1);
    }

    private static void wordFunctions(Bench b) {
        comes(b, "30", 30, 1, WORD, word("ab"), WORD, word("ab"));
        comes(b, "30", 30, 0, WORD, word("ab"), WORD, word("abc"));
        String[] ordered = {"", "a", "aa", "aaaaaaaa", "ab", "az", "b", "ba", "zz"};
        for (int i = 0; i < ordered.length; i++) {
            for (int k = 0; k < ordered.length; k++) {
                comes(b, "31 of " + ordered[i] + " " + ordered[k], 31, i < k ? 1 : 0, WORD, word(ordered[i]),
                        WORD, word(ordered[k]));
            }
        }
        comes(b, "45", 45, word("abcdefgh"), WORD, word("abc"), WORD, word("defgh"));
        comes(b, "45 of none", 45, word("ab"), WORD, 0, WORD, word("ab"));
        comes(b, "45 with none", 45, word("ab"), WORD, word("ab"), WORD, 0);
        fails(b, "45 of nine", 45, 3, 45, WORD, word("abcd"), WORD, word("abcde"));
        comes(b, "46", 46, word("ab"), WORD, word("abc"), INT, 2);
        comes(b, "46 of all", 46, word("abc"), WORD, word("abc"), INT, 3);
        comes(b, "46 of none", 46, 0, WORD, word("abc"), INT, 0);
        fails(b, "46 of 4", 46, 2, 46, WORD, word("abc"), INT, 4);
        fails(b, "46 of -1", 46, 2, 46, WORD, word("abc"), INT, -1);
        comes(b, "47 at 0", 47, 1, WORD, word("abz"), INT, 0);
        comes(b, "47 at 2", 47, 26, WORD, word("abz"), INT, 2);
        fails(b, "47 at 3", 47, 2, 47, WORD, word("abz"), INT, 3);
        fails(b, "47 at -1", 47, 2, 47, WORD, word("abz"), INT, -1);
        comes(b, "48", 48, 8, WORD, word("abcdefgh"));
        comes(b, "48 of none", 48, 0, WORD, 0);
    }

    private static void stateFunctions(Bench b) {
        comes(b, "49", 49, 1);
        comes(b, "49", 49, 2);
        C.due("the count", b.spent(5), 2);
        comes(b, "51", 51, 0);
        comes(b, "50", 50, 0, LONG, 123);
        comes(b, "51", 51, 123);
        C.due("the note", b.spent(6), 123);
        C.due("no count", b.spent(5), 2);
        comes(b, "53", 53, 0);
        int fails = b.fold(b.drop(8, 0, LONG), 49);
        fails(b, "a failed call counts", fails, 6, 8, INT, 1);
        C.due("the count stays", b.spent(5), 3);
    }

    private static void sorts() {
        C.part("the steps of each sort");
        Bench b = new Bench();
        int minus = b.leaf(7);
        int plus = b.leaf(0);
        int count = b.leaf(49);
        comes(b, "a function", minus, -1, INT, 1);
        C.due("one step", b.spent(0), 1);
        comes(b, "a filter", b.filter(plus, 0, minus), 4, INT, 1, INT, 5);
        C.due("three steps", b.spent(0), 3);
        C.due("two functions", b.spent(1), 2);
        C.due("trace 0 arg", b.trace(0, 3), 1);
        C.due("trace 1 arg 0", b.trace(1, 3), -1);
        C.due("trace 1 arg 1", b.trace(1, 4), 5);
        int two = b.constant(INT, 2);
        comes(b, "a loop", b.loop(two, plus), 1, INT, 0);
        C.due("four steps", b.spent(0), 4);
        comes(b, "a count", count, 1);
        C.due("one function", b.spent(1), 1);
        int site = b.site(minus);
        comes(b, "a site of a drop", b.drop(site, 0, INT), -4, INT, 9, INT, 4);
        C.due("three steps", b.spent(0), 3);
        comes(b, "nested", b.fold(b.filter(plus, 1, site), b.permute(plus, 1, 0)), 15, INT, 15);
        C.due("its steps", b.spent(0), 7);
        C.due("its functions", b.spent(1), 3);
    }

    private static void failures() {
        C.part("failures and their paths");
        Bench b = new Bench();
        int by = b.leaf(3);
        int own = b.leaf(8);
        int minus = b.leaf(7);
        int note = b.leaf(50);
        int noted = b.bind(note, 0, 4);
        int caught = b.caught(own, 6, minus);
        // What fails first is told with its way, though an other failure arises and is caught in between.
        int careful = b.after(b.drop(caught, 1, INT), b.after(b.widen(minus, -1, LONG), note));
        int ensured = b.ensure(by, careful);
        fails(b, "the first failure", ensured, 1, by, INT, 5, INT, 0);
        C.due("path 1", b.path(1), ensured);
        C.due("path 2", b.path(2), NONE);
        C.due("both counted", b.spent(4), 2);
        C.due("the note", b.spent(6), 5);
        int strict = b.ensure(by, b.after(b.widen(own, -1, LONG), note));
        int widened = b.about(b.about(strict, 2), 1);
        fails(b, "the second failure", strict, 6, own, INT, 5, INT, 0);
        C.due("path 1", b.path(1), widened);
        C.due("path 2", b.path(2), b.about(strict, 2));
        C.due("path 3", b.path(3), strict);
        C.due("path 4", b.path(4), NONE);
        fails(b, "it came, but the other failed", strict, 6, own, INT, 5, INT, 1);
        comes(b, "both came", strict, 0, INT, 0, INT, 1);
        int again = b.caught(by, 1, own);
        fails(b, "the other of a catch fails", again, 6, own, INT, 5, INT, 0);
        C.due("path 1", b.path(1), again);
        C.due("told 3", b.told(3), 2);
        int outer = b.ensure(b.caught(b.ensure(by, noted), 1, own), noted);
        fails(b, "ensures on the way", outer, 6, own, INT, 1, INT, 0);
        C.due("three notes are two", b.spent(1), 4);
        twentyFailures();
    }

    private static void twentyFailures() {
        Bench b = new Bench();
        int own = b.leaf(8);
        int one = b.constant(INT, 1);
        int failing = b.caught(b.bind(own, 0, 1), 6, one);
        int body = b.drop(b.drop(failing, 0, INT), 0, INT);
        int counted = b.leaf(7);
        int loop = b.loop(counted, b.drop(body, 2, INT));
        comes(b, "twenty failures", loop, 1, INT, 0, INT, -20);
        C.due("twenty", b.spent(4), 20);
        fails(b, "the 21st", loop, 5, own, INT, 0, INT, -21);
        C.due("twenty", b.spent(4), 20);
        C.due("path 2", b.path(2), failing);
        int note = b.bind(b.leaf(50), 0, 8);
        int ensured = b.ensure(loop, note);
        fails(b, "no ensure goes on", ensured, 5, own, INT, 0, INT, -21);
        C.due("no note", b.spent(6), 0);
        int last = b.fold(b.drop(own, 0, INT), b.permute(loop, 1, 0));
        fails(b, "the twentieth ends the call", last, 6, own, INT, -19);
        fails(b, "the 21st ends the call", last, 5, own, INT, -20);
    }

    private static void limits() {
        C.part("depth, steps, rounds, room");
        Bench b = new Bench();
        int leaf = b.leaf(7);
        int h = leaf;
        for (int n = 1; n < 100; n++) {
            h = b.site(h);
        }
        comes(b, "100 within one another", h, -5, INT, 5);
        C.due("steps", b.spent(0), 100);
        int deep = b.site(h);
        fails(b, "101 within one another", deep, 4, leaf, INT, 5);
        C.due("steps", b.spent(0), 100);
        C.due("functions", b.spent(1), 0);
        C.due("no failure of these", b.spent(4), 0);
        C.due("path", b.told(3), 101);
        C.due("the last of it", b.path(100), deep);
        int note = b.bind(b.leaf(50), 0, 8);
        fails(b, "no ensure goes on", b.ensure(h, note), 4, leaf, INT, 5);
        C.due("no note", b.spent(6), 0);
        steps();
        rounds();
        room();
    }

    private static void steps() {
        Bench b = new Bench();
        int plus = b.leaf(0);
        int three = b.constant(INT, 3);
        int many = b.constant(INT, 999);
        int inner = b.loop(many, plus);
        int outer = b.loop(b.leaf(7), b.drop(b.drop(inner, 1, INT), 2, INT));
        comes(b, "19 outer rounds", outer, 19 * 999 * 499, INT, 0, INT, -19);
        C.due("steps", b.spent(0), 2 + 19 * (2 + 1001));
        fails(b, "20 outer rounds", outer, 5, plus, INT, 0, INT, -20);
        C.due("steps", b.spent(0), 20000);
        C.due("path 1", b.path(1), inner);
        C.due("kept", b.told(4), 200);
        C.due("functions begun are more", b.spent(1), 20000 - 2 - 20 * 4 + 1);
        C.due("trace 199", b.trace(199, 0), plus);
        C.due("trace 200", b.trace(200, 0), 0);
        comes(b, "steps are counted anew", b.loop(three, plus), 3, INT, 0);
        C.due("steps", b.spent(0), 5);
        C.due("kept", b.told(4), 3);
        C.due("trace 3", b.trace(3, 0), 0);
    }

    private static void rounds() {
        Bench b = new Bench();
        int plus = b.leaf(0);
        int loop = b.loop(b.leaf(7), b.drop(plus, 2, INT));
        comes(b, "1000 rounds", loop, 499500, INT, 0, INT, -1000);
        fails(b, "1001 rounds", loop, 5, loop, INT, 0, INT, -1001);
        C.due("path", b.told(3), 1);
        C.due("steps", b.spent(0), 2 + 2000);
        fails(b, "as many as can be", loop, 5, loop, INT, 0, INT, -Integer.MAX_VALUE);
    }

    private static void room() {
        Bench b = new Bench();
        b.board(0, 64);
        int change = b.leaf(44);
        int part = b.leaf(42);
        int body = b.bind(change, 2, 5);
        int bound = b.drop(b.bind(body, 1, 0), 1, INT);
        int loop = b.loop(b.leaf(7), b.drop(bound, 2, INT));
        comes(b, "31 rows of 64", loop, 64, ROW, 0, INT, -31);
        C.due("rows", b.spent(2), 31);
        C.due("items", b.spent(3), 31 * 64);
        fails(b, "32 rows of 64", loop, 7, change, ROW, 0, INT, -32);
        C.due("rows", b.spent(2), 31);
        b.board(0, 10);
        comes(b, "200 rows of 10", loop, 10, ROW, 0, INT, -200);
        C.due("items", b.spent(3), 2000);
        fails(b, "201 rows of 10", loop, 7, change, ROW, 0, INT, -201);
        b.board(0, 23);
        comes(b, "86 rows of 23", loop, 23, ROW, 0, INT, -86);
        C.due("items", b.spent(3), 1978);
        fails(b, "the 2001st item", loop, 7, change, ROW, 0, INT, -87);
        C.due("rows", b.spent(2), 86);
        C.due("items", b.spent(3), 1978);
        int empty = b.drop(b.bind(b.bind(part, 2, 0), 1, 0), 1, INT);
        int empties = b.loop(b.leaf(7), b.drop(empty, 2, INT));
        comes(b, "200 rows of none", empties, 0, ROW, 0, INT, -200);
        fails(b, "201 rows of none", empties, 7, part, ROW, 0, INT, -201);
        C.due("rows", b.spent(2), 200);
        int note = b.bind(b.leaf(50), 0, 8);
        fails(b, "no ensure goes on", b.ensure(empties, note), 7, part, ROW, 0, INT, -201);
        C.due("no note", b.spent(6), 0);
        int collect = b.collect(b.leaf(39), 0);
        int collecting = b.drop(b.drop(collect, 0, INT), 0, INT);
        int collects = b.loop(b.leaf(7), b.drop(collecting, 2, INT));
        comes(b, "200 collects", collects, 0, INT, 0, INT, -200);
        fails(b, "201 collects", collects, 7, collect, INT, 0, INT, -201);
        fails(b, "a bound ahead of room", b.bind(part, 1, -1), 2, part, ROW, 0, INT, 2);
    }

    private static void tellings() {
        C.part("promises 29, 30: trace, spent");
        Bench b = new Bench();
        int change = b.leaf(44);
        int sum = b.leaf(41);
        int both = b.after(change, sum);
        row(b, 0, 1, 2, 3);
        comes(b, "call", both, 13, ROW, 0, INT, 1, LONG, 9);
        long[][] due = {{change, 44, 3, 3, 1, 9, 0}, {sum, 41, 1, 3, 0, 0, 0}};
        for (int k = 0; k < due.length; k++) {
            for (int what = 0; what < 7; what++) {
                C.due("trace " + k + " " + what, b.trace(k, what), due[k][what]);
            }
            C.due("trace " + k + " -1", b.trace(k, -1), 0);
        }
        C.due("trace 2", b.trace(2, 1), 0);
        C.due("trace -1", b.trace(-1, 1), 0);
        long[] spent = {3, 2, 1, 3, 0, 0, 0};
        for (int what = 0; what < spent.length; what++) {
            C.due("spent " + what, b.spent(what), spent[what]);
        }
        C.due("spent 7", b.spent(7), 0);
        C.due("spent -1", b.spent(-1), 0);
        int less = b.leaf(1);
        run(b, less, INT, 9, INT, 9);
        run(b, b.leaf(48), WORD, word("ab"));
        C.due("a WORD by its bits", b.trace(0, 3), word("ab"));
        C.due("nothing of the call before", b.trace(0, 4), 0);
        b.sweep();
        C.due("the trace stays", b.trace(0, 1), 48);
        run(b, b.leaf(3), INT, 1, INT, 0);
        C.due("one that fails is begun", b.trace(0, 1), 3);
    }

    private static void asking() {
        C.part("promises 31 to 34: type, arity, about, reaches");
        Bench b = new Bench();
        int plus = b.leaf(0);
        int below = b.leaf(24);
        int less = b.leaf(1);
        int guard = b.guard(below, plus, less);
        int site = b.site(plus);
        int over = b.permute(site, 2, 1);
        C.refused(b, "type of none", () -> b.type(9, 7), UNKNOWN);
        C.refused(b, "type at -2", () -> b.type(plus, -2), BAD);
        C.refused(b, "arity of none", () -> b.arity(-1), UNKNOWN);
        C.refused(b, "about none", () -> b.about(9, 9), UNKNOWN);
        C.refused(b, "about 5", () -> b.about(plus, 5), BAD);
        C.refused(b, "about -1", () -> b.about(plus, -1), BAD);
        C.refused(b, "none reaches", () -> b.reaches(9, plus), UNKNOWN);
        C.refused(b, "reaches none", () -> b.reaches(plus, 9), UNKNOWN);
        C.done(b, "target", () -> b.reaches(guard, plus), 1);
        C.done(b, "other", () -> b.reaches(guard, below), 1);
        C.done(b, "third", () -> b.reaches(guard, less), 1);
        C.done(b, "itself", () -> b.reaches(guard, guard), 0);
        C.done(b, "back", () -> b.reaches(plus, guard), 0);
        C.done(b, "through a site", () -> b.reaches(over, plus), 1);
        C.done(b, "not", () -> b.reaches(over, less), 0);
        b.retarget(site, guard);
        C.done(b, "through a changed site", () -> b.reaches(over, less), 1);
        b.retarget(site, less);
        C.done(b, "not any more", () -> b.reaches(over, plus), 0);
    }

    private static void plainForms() {
        C.part("promises 35, 36: alike, quiet");
        Bench b = new Bench();
        int less = b.leaf(1);
        int plus = b.leaf(0);
        C.refused(b, "alike to none", () -> b.alike(less, 99), UNKNOWN);
        C.refused(b, "none alike", () -> b.alike(99, less), UNKNOWN);
        C.refused(b, "quiet of none", () -> b.quiet(99), UNKNOWN);
        alike(b, "itself", less, less, 1);
        alike(b, "the same function", less, b.leaf(1), 1);
        alike(b, "another function", less, plus, 0);
        alike(b, "constants", b.constant(INT, 5), b.constant(INT, 5), 1);
        alike(b, "other constants", b.constant(INT, 5), b.constant(INT, 6), 0);
        alike(b, "other kinds", b.constant(INT, 5), b.constant(LONG, 5), 0);
        alike(b, "other zeros", b.constant(REAL, 0), b.constant(REAL, real(-0.0)), 0);
        alike(b, "no numbers", b.constant(REAL, NO_NUMBER), b.constant(REAL, NO_NUMBER), 1);
        alike(b, "binds", b.bind(less, 0, 5), b.bind(b.leaf(1), 0, 5), 1);
        alike(b, "binds elsewhere", b.bind(less, 0, 5), b.bind(less, 1, 5), 0);
        alike(b, "binds of others", b.bind(less, 0, 5), b.bind(less, 0, 6), 0);
        alike(b, "drops of other kinds", b.drop(less, 0, WORD), b.drop(less, 0, ROW), 0);
        alike(b, "drops", b.drop(less, 2, WORD), b.drop(less, 2, WORD), 1);
        permutesAlike();
        bindsAlike();
        guardsAlike();
        othersAlike();
        quiets();
    }

    private static void permutesAlike() {
        Bench b = new Bench();
        int item = b.leaf(44);
        int turned = b.permute(item, 3, 1 | 2 << 3 | 0 << 6);
        int back = b.permute(turned, 3, 1 | 2 << 3 | 0 << 6);
        int home = b.permute(back, 3, 1 | 2 << 3 | 0 << 6);
        alike(b, "turned thrice", home, item, 1);
        alike(b, "turned twice", back, item, 0);
        alike(b, "turned twice is the other way", back, b.permute(item, 3, 2 | 0 << 3 | 1 << 6), 1);
        alike(b, "a permute that changes nothing", b.permute(turned, 3, 0 | 1 << 3 | 2 << 6), turned, 1);
        int less = b.leaf(1);
        int same = b.permute(less, 1, 0);
        alike(b, "one for both", same, less, 0);
        alike(b, "of it again", b.permute(same, 1, 0), same, 1);
        int four = b.leaf(36);
        int mixed = b.permute(four, 3, 2 | 0 << 3 | 1 << 6);
        int narrow = b.permute(mixed, 2, 0 | 0 << 3 | 1 << 6);
        alike(b, "both orders", narrow, b.permute(four, 2, 1 | 0 << 3 | 0 << 6), 1);
        alike(b, "through a site not", b.permute(b.site(turned), 3, 0 | 1 << 3 | 2 << 6), turned, 0);
        int none = b.leaf(49);
        alike(b, "of no parameters", b.permute(none, 0, 0), none, 1);
    }

    private static void bindsAlike() {
        Bench b = new Bench();
        int less = b.leaf(1);
        int dropped = b.drop(less, 1, INT);
        alike(b, "bind of what was put in", b.bind(dropped, 1, 3), less, 1);
        alike(b, "bind of an other one", b.bind(dropped, 0, 3), less, 0);
        alike(b, "bind of an other one", b.bind(dropped, 0, 3), b.bind(dropped, 0, 3), 1);
        int permuted = b.permute(dropped, 3, 0 | 1 << 3 | 2 << 6);
        alike(b, "behind a permute that changes nothing", b.bind(permuted, 1, 3), less, 1);
        int words = b.drop(less, 2, WORD);
        alike(b, "of a WORD", b.bind(words, 2, 0), less, 1);
        int twice = b.drop(words, 0, TRUTH);
        alike(b, "one after the other", b.bind(b.bind(twice, 0, 1), 2, 0), less, 1);
        int turned = b.permute(less, 2, 1);
        int inside = b.bind(b.drop(turned, 0, ROW), 0, 0);
        alike(b, "a permute comes out", b.permute(inside, 2, 1), less, 1);
        b.board(0, 2);
        int row = b.leaf(39);
        int zeros = b.bind(row, 0, 0);
        row(b, 0, 0, 1);
        alike(b, "ROWS by their items", zeros, b.bind(row, 0, 0), 0);
        row(b, 0, 1, 0);
        alike(b, "ROWS by their first items", zeros, b.bind(row, 0, 0), 0);
        b.board(5, 2);
        alike(b, "ROWS of the same items", zeros, b.bind(row, 0, 5), 1);
        b.board(5, 3);
        alike(b, "ROWS of other lengths", zeros, b.bind(row, 0, 5), 0);
    }

    private static void guardsAlike() {
        Bench b = new Bench();
        int less = b.leaf(1);
        int below = b.leaf(24);
        int loud = b.bind(b.leaf(40), 0, 0);
        int loudTest = b.after(b.filter(b.bind(b.leaf(25), 1, 4), 0, loud), b.leaf(32));
        int turnedTwice = b.permute(b.permute(less, 2, 1), 2, 1);
        alike(b, "branches that are alike", b.guard(below, less, turnedTwice), less, 1);
        alike(b, "a loud test", b.guard(loudTest, less, turnedTwice), less, 0);
        alike(b, "loud tests", b.guard(loudTest, less, turnedTwice), b.guard(loudTest, less, less), 1);
        alike(b, "other branches", b.guard(below, less, b.leaf(0)), less, 0);
        alike(b, "other tests", b.guard(below, less, b.leaf(0)), b.guard(b.leaf(27), less, b.leaf(0)), 0);
        int site = b.site(less);
        alike(b, "sites", site, b.site(less), 0);
        alike(b, "a site", site, site, 1);
        alike(b, "a site and its target", site, less, 0);
        alike(b, "branches of one site", b.guard(below, site, site), site, 1);
        int over = b.bind(site, 0, 1);
        alike(b, "over one site", over, b.bind(site, 0, 1), 1);
        alike(b, "over two sites", over, b.bind(b.site(less), 0, 1), 0);
        b.retarget(site, b.leaf(0));
        alike(b, "over a changed site", over, b.bind(site, 0, 1), 1);
    }

    private static void othersAlike() {
        Bench b = new Bench();
        int by = b.leaf(3);
        int minus = b.leaf(7);
        int nothing = b.leaf(53);
        alike(b, "catches", b.caught(by, 1, minus), b.caught(b.leaf(3), 1, b.leaf(7)), 1);
        alike(b, "catches of other kinds", b.caught(by, 1, minus), b.caught(by, 2, minus), 0);
        alike(b, "ensures", b.ensure(by, nothing), b.ensure(by, b.leaf(53)), 1);
        int longs = b.leaf(9);
        alike(b, "spreads", b.spread(longs, 2), b.spread(longs, 2), 1);
        alike(b, "other spreads", b.spread(longs, 2), b.spread(longs, 1), 0);
        int sum = b.leaf(41);
        alike(b, "collects", b.collect(sum, 2), b.collect(sum, 2), 1);
        alike(b, "other collects", b.collect(sum, 2), b.collect(sum, 3), 0);
        alike(b, "widens", b.widen(by, 0, INT), by, 1);
        int reals = b.leaf(16);
        alike(b, "widens of other kinds", b.widen(reals, 0, INT), b.widen(reals, 0, LONG), 0);
        alike(b, "widens elsewhere", b.widen(reals, 0, INT), b.widen(reals, 1, INT), 0);
        alike(b, "widens of the same", b.widen(reals, 0, INT), b.widen(reals, 0, INT), 1);
        int three = b.constant(INT, 3);
        alike(b, "loops", b.loop(three, b.leaf(1)), b.loop(b.constant(INT, 3), b.leaf(1)), 1);
        alike(b, "other loops", b.loop(three, b.leaf(1)), b.loop(b.constant(INT, 4), b.leaf(1)), 0);
        alike(b, "afters", b.after(by, minus), b.after(by, minus), 1);
        alike(b, "other afters", b.after(by, minus), b.after(by, b.leaf(8)), 0);
        alike(b, "folds", b.fold(by, minus), b.fold(by, minus), 1);
        alike(b, "filters", b.filter(by, 0, minus), b.filter(by, 0, minus), 1);
        alike(b, "filters elsewhere", b.filter(by, 0, minus), b.filter(by, 1, minus), 0);
        // The forms stand though the handle that they were made of is gone, and its number has an other one.
        b.board(0, 2);
        int first = b.constant(ROW, 0);
        int kept = b.constant(ROW, 0);
        b.pin(kept, true);
        b.sweep();
        b.board(0, 1);
        while (b.leaf(0) < first) {
            C.due("status", b.status(), 0);
        }
        b.board(0, 2);
        alike(b, "after a sweep", kept, b.constant(ROW, 0), 1);
    }

    private static void quiets() {
        Bench b = new Bench();
        String loud = " 3 4 8 12 13 40 42 44 45 46 47 49 50 51 ";
        for (int f = 0; f < 54; f++) {
            int h = b.leaf(f);
            int due = loud.contains(" " + f + " ") ? 0 : 1;
            C.done(b, "quiet function " + f, () -> b.quiet(h), due);
        }
        int[][] due = {
            {b.constant(INT, 0), 1}, {b.bind(1, 0, 0), 1}, {b.bind(3, 0, 0), 0}, {b.drop(1, 0, 0), 1},
            {b.drop(3, 0, 0), 0}, {b.permute(1, 2, 1), 1}, {b.permute(3, 2, 1), 0}, {b.filter(1, 0, 7), 1},
            {b.filter(1, 0, 8), 0}, {b.filter(3, 0, 7), 0}, {b.after(1, 7), 1}, {b.after(1, 8), 0},
            {b.fold(1, 7), 1}, {b.fold(1, 8), 0}, {b.fold(3, 7), 0}, {b.widen(16, 0, 0), 1},
            {b.widen(3, -1, 1), 0}, {b.guard(24, 0, 1), 1}, {b.guard(24, 0, 3), 0}, {b.guard(24, 3, 0), 0},
            {b.spread(9, 2), 0}, {b.collect(41, 2), 0}, {b.loop(54, 0), 0}, {b.caught(1, 1, 7), 0},
            {b.ensure(1, 53), 0}, {b.site(1), 0}, {b.bind(b.drop(1, 0, 0), 0, 0), 1},
            {b.guard(24, b.site(1), b.site(1)), 0}};
        for (int[] d : due) {
            C.done(b, "quiet " + d[0], () -> b.quiet(d[0]), d[1]);
        }
    }

    private static void sweeping() {
        C.part("promises 37, 38: pin, sweep");
        Bench b = new Bench();
        C.refused(b, "pin none", () -> b.pin(0, true), UNKNOWN);
        C.done(b, "sweep none", b::sweep, 0);
        int plus = b.leaf(0);
        int less = b.leaf(1);
        int below = b.leaf(24);
        int guard = b.guard(below, plus, less);
        int site = b.site(guard);
        int alone = b.leaf(7);
        C.done(b, "pin", () -> b.pin(site, true), 0);
        C.done(b, "pin again", () -> b.pin(site, true), 1);
        C.due("pinned", b.told(1), 1);
        C.done(b, "sweep", b::sweep, 1);
        C.refused(b, "it is gone", () -> b.arity(alone), UNKNOWN);
        C.done(b, "sweep again", b::sweep, 0);
        C.due("five stay", b.told(0), 5);
        C.done(b, "a site lets go", () -> b.retarget(site, less), 1);
        C.done(b, "sweep", b::sweep, 3);
        C.due("two stay", b.told(0), 2);
        C.done(b, "the least number", () -> b.leaf(53), 0);
        C.done(b, "the next one", () -> b.leaf(53), 2);
        C.done(b, "and the next", () -> b.leaf(53), 3);
        C.done(b, "and behind", () -> b.leaf(53), 5);
        C.done(b, "let go", () -> b.pin(site, false), 1);
        C.done(b, "let go again", () -> b.pin(site, false), 0);
        C.done(b, "sweep all", b::sweep, 6);
        C.due("none", b.told(0), 0);
        b.leaf(0);
        b.pin(0, true);
        b.pin(0, false);
        b.sweep();
        b.leaf(0);
        C.done(b, "a new one is not pinned", () -> b.pin(0, false), 0);
    }

    private static void tolds() {
        C.part("promises 39 to 41: told, rule, status");
        Bench b = new Bench();
        b.leaf(3);
        b.leaf(0);
        b.pin(1, true);
        run(b, 0, INT, 1, INT, 0);
        b.arg(INT, 1);
        long[] due = {2, 1, 1, 1, 1};
        for (int what = 0; what < due.length; what++) {
            C.due("told " + what, b.told(what), due[what]);
        }
        C.due("told 5", b.told(5), BAD);
        C.due("told -1", b.told(-1), BAD);
        C.due("told is no call for status", b.status(), 0);
        b.caught(0, 1, 77);
        C.due("status", b.status(), UNKNOWN);
        C.due("rule", b.rule(), 0);
        b.loop(0, 0);
        b.how();
        b.result();
        b.item(0);
        b.failedAt();
        b.path(0);
        b.trace(0, 0);
        b.spent(0);
        b.told(9);
        C.due("status stays", b.status(), TYPE);
        C.due("rule stays", b.rule(), 3);
        C.due("status stays", b.status(), TYPE);
        b.digest();
        C.due("status after digest", b.status(), 0);
        C.due("rule after digest", b.rule(), 0);
        b.loop(0, 0);
        b.leaf(99);
        C.due("status after an other refusal", b.status(), BAD);
        C.due("rule after an other refusal", b.rule(), 0);
        int wide = b.widen(b.leaf(0), -1, LONG);
        C.due("an answer of -1 is none", b.about(wide, 4), -1);
        C.due("status", b.status(), 0);
        C.due("an answer of NONE is none", b.about(0, 1), NONE);
        C.due("status", b.status(), 0);
        b.loop(0, 0);
        b.noArgs();
        C.due("status after noArgs", b.status(), 0);
        b.loop(0, 0);
        b.sweep();
        C.due("status after sweep", b.status(), 0);
    }

    private static long mixed(long... numbers) {
        long h = 17;
        for (long n : numbers) {
            h = 31 * h + n;
        }
        return h;
    }

    private static void digests() {
        C.part("promise 42: digest");
        Bench b = new Bench();
        C.due("of a new one", b.digest(), mixed(0, 0, 0, 0, 0, 0, 0, 0, 0, 0));
        row(b, 1, 7, 8);
        b.leaf(44);
        b.bind(0, 0, 1);
        b.constant(ROW, 1);
        b.constant(REAL, NO_NUMBER);
        b.pin(2, true);
        b.permute(0, 3, 2 | 1 << 3 | 0 << 6);
        b.board(1, 1);
        b.arg(ROW, 1);
        b.arg(WORD, word("ab"));
        long[] due = {
            0, 0, ROW, INT, LONG, ROW, NONE, NONE, NONE, 44, 0,
            1, 2, INT, LONG, ROW, 0, NONE, NONE, 0, 2, 7, 8, 0,
            2, 1, ROW, NONE, NONE, NONE, 0, 2, 7, 8, 1,
            3, 1, REAL, NONE, NONE, NONE, 0, NO_NUMBER, 0,
            4, 4, LONG, INT, ROW, ROW, 0, NONE, NONE, 2 | 1 << 3, 0,
            ROW, 1, 0, WORD, word("ab"),
            0, 1, 0, 0, 0, 0, 0, 0, 0, 0, 0};
        C.due("of some", b.digest(), mixed(due));
        b.noArgs();
        b.sweep();
        b.leaf(49);
        b.leaf(50);
        b.call(0);
        run(b, 1, LONG, 5);
        b.guard(0, 0, 0);
        C.due("status before", b.status(), TYPE);
        long[] second = {
            0, 0, LONG, NONE, NONE, NONE, 49, 0,
            1, 0, LONG, NOTHING, NONE, NONE, NONE, 50, 0,
            2, 1, ROW, NONE, NONE, NONE, 0, 2, 7, 8, 1,
            0, 1, 0, 0, 0, 0, 0, 0, 0, 1, 5};
        C.due("of others", b.digest(), mixed(second));
        C.due("status after", b.status(), 0);
    }
}
