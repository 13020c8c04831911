import java.util.function.ToLongFunction;

/**
 * The paragraph REFUSALS, promise by promise: each refusal's number, the first that fits where more
 * than one does, that it is counted once and as it, and that nothing else is changed.
 */
public final class RefusalsTest {
    private static final Due DUE = new Due("RefusalsTest");
    private static final int MIN = Integer.MIN_VALUE;
    private static final int MAX = Integer.MAX_VALUE;

    private static final int INTS = 0;
    private static final int BYTES = 1;
    private static final int PULL = 2;
    private static final int NOTHING = 3;
    private static final int LONGS = 4;
    private static final int BELIEF = 5;
    private static final int TEXT = 6;
    private static final int EMPTY = 7;

    public static void main(String[] args) {
        row();
        set();
        copy();
        show();
        says();
        pull();
        pullOf();
        teethLackSlack();
        ask();
        jacket();
        frees();
        casesAndLine();
        haste();
        freedAndBest();
        behind();
        strongCatchesStitches();
        judge();
        meant();
        inTruth();
        restore();
        neverRefused();
        DUE.end();
    }

    /** 10 teeth, pulls 0 GENTLE, 1 HARD, 2 TEAR, DEPTH 5, 50 seconds, an image of less, shelves of all sorts. */
    private static TheLiningsInIt made() {
        TheLiningsInIt x = new TheLiningsInIt();
        x.teeth(10);
        x.lack(2, true);
        x.slack(5, 7);
        x.pull(1, 3, 4);
        x.pull(2, 6, 5);
        x.image();
        x.slack(6, 8);
        x.lack(3, true);
        x.pull(5, 0, 9);
        int[] asked = {9, 59, 3, 2, 7, 11, 49, 4};
        for (int what = 0; what < 8; what++) {
            x.ask(what, asked[what]);
        }
        x.seed(99);
        x.pulls(2);
        Due.ints(x, INTS, 1, 2, 0, 25, 0, 0, 0);
        x.row(EMPTY, 0, 0);
        x.row(BYTES, 0, 3);
        x.show(PULL, 1);
        x.row(LONGS, 3, 24);
        x.set(LONGS, 0, 100);
        x.row(BELIEF, 1, 25);
        x.set(BELIEF, 3, 8);
        Due.text(x, TEXT, "gap 0");
        x.jacket(TEXT);
        x.act(2, 2, 77);
        return x;
    }

    /** The call on one of two alike: it alone is refused, and that is all by which they differ. */
    private static void no(String call, int want, ToLongFunction<TheLiningsInIt> made) {
        no(call, want, RefusalsTest::made, made);
    }

    private static void no(String call, int want, java.util.function.Supplier<TheLiningsInIt> maker,
            ToLongFunction<TheLiningsInIt> made) {
        TheLiningsInIt x = maker.get();
        TheLiningsInIt y = maker.get();
        DUE.is(call, made.applyAsLong(x), want);
        int code = want < -10 ? -want - 10 : -want;
        long[] counted = View.refusals(x);
        long[] before = View.refusals(y);
        for (int k = 1; k < 8; k++) {
            DUE.is("counted as -" + k + " by " + call, counted[k] - before[k], k == code ? 1 : 0);
        }
        DUE.is("what is changed by " + call, View.of(x).equals(View.of(y)) ? 0 : 1, 0);
    }

    /** What is never refused: nothing is counted. */
    private static void yes(String call, long want, ToLongFunction<TheLiningsInIt> made) {
        TheLiningsInIt x = made();
        long[] before = View.refusals(x);
        DUE.is(call, made.applyAsLong(x), want);
        DUE.is("nothing is counted by " + call, java.util.Arrays.equals(before, View.refusals(x)) ? 1 : 0, 1);
    }

    /** Promise 2: -1; -4; -6 SORT; -7. */
    private static void row() {
        no("row(-1, 0, 1)", -1, x -> x.row(-1, 0, 1));
        no("row(8, 0, 1)", -1, x -> x.row(8, 0, 1));
        no("row(MIN, 9, -1)", -1, x -> x.row(MIN, 9, -1));
        no("row(MAX, 9, 161)", -1, x -> x.row(MAX, 9, 161));
        no("row(0, 0, -1)", -4, x -> x.row(0, 0, -1));
        no("row(0, 4, MIN)", -4, x -> x.row(0, 4, MIN));
        no("row(0, 4, 0)", -6, x -> x.row(0, 4, 0));
        no("row(0, -1, 161)", -6, x -> x.row(0, -1, 161));
        no("row(0, 3, 161)", -7, x -> x.row(0, 3, 161));
        no("row(2, 0, MAX)", -7, x -> x.row(2, 0, MAX));
    }

    /** Promise 3: -1; -2; -3; -5. */
    private static void set() {
        no("set(-1, -1, 1)", -1, x -> x.set(-1, -1, 1));
        no("set(8, 0, 1)", -1, x -> x.set(8, 0, 1));
        no("set of a PULL", -2, x -> x.set(PULL, -1, 1));
        no("set of NOTHING", -3, x -> x.set(NOTHING, -1, 1));
        no("set below the first", -5, x -> x.set(INTS, -1, 1));
        no("set behind the last", -5, x -> x.set(INTS, 7, 1));
        no("set at MIN", -5, x -> x.set(INTS, MIN, 1));
        no("set at MAX", -5, x -> x.set(INTS, MAX, 1));
        no("set of an empty ROW", -5, x -> x.set(EMPTY, 0, 1));
    }

    /** Promise 4: -1; -2 also of two SORTS (when both hold something); -3 either; -4 n; -5. */
    private static void copy() {
        no("copy from no shelf", -1, x -> x.copy(-1, PULL, -1, -1, -1));
        no("copy to no shelf", -1, x -> x.copy(PULL, 8, -1, -1, -1));
        no("copy from a PULL", -2, x -> x.copy(PULL, INTS, 0, 0, -1));
        no("copy to a PULL", -2, x -> x.copy(INTS, PULL, 0, 0, -1));
        no("copy of a PULL onto itself", -2, x -> x.copy(PULL, PULL, 0, 0, 0));
        no("copy from a PULL to NOTHING", -2, x -> x.copy(PULL, NOTHING, 0, 0, 0));
        no("copy from NOTHING to a PULL", -2, x -> x.copy(NOTHING, PULL, 0, 0, 0));
        no("copy of two SORTS", -2, x -> x.copy(INTS, BYTES, -1, 0, -1));
        no("copy of two SORTS, none", -2, x -> x.copy(LONGS, INTS, 0, 0, 0));
        no("copy from NOTHING", -3, x -> x.copy(NOTHING, INTS, -1, 0, -1));
        no("copy to NOTHING", -3, x -> x.copy(INTS, NOTHING, 0, -1, -1));
        no("copy of NOTHING onto itself", -3, x -> x.copy(NOTHING, NOTHING, 0, 0, -1));
        no("copy of fewer than none", -4, x -> x.copy(INTS, INTS, -1, 99, -1));
        no("copy of MIN", -4, x -> x.copy(INTS, INTS, 0, 0, MIN));
        no("copy from below 0", -5, x -> x.copy(INTS, INTS, -1, 0, 1));
        no("copy to below 0", -5, x -> x.copy(INTS, INTS, 0, -1, 1));
        no("copy of none from below 0", -5, x -> x.copy(INTS, INTS, -1, 0, 0));
        no("copy of none to below 0", -5, x -> x.copy(INTS, INTS, 0, -1, 0));
        no("copy to an end that isn't there", -5, x -> x.copy(INTS, INTS, 0, 1, 7));
        no("copy from an end that isn't there", -5, x -> x.copy(INTS, INTS, 1, 0, 7));
        no("copy of none from behind the end", -5, x -> x.copy(INTS, INTS, 8, 0, 0));
        no("copy of none to behind the end", -5, x -> x.copy(INTS, INTS, 0, 8, 0));
        no("copy of more than there is", -5, x -> x.copy(BYTES, TEXT, 0, 0, 4));
        no("copy to less than that", -5, x -> x.copy(TEXT, BYTES, 0, 0, 4));
        no("copy from an empty ROW", -5, x -> x.copy(EMPTY, BYTES, 0, 0, 1));
        no("copy of MAX", -5, x -> x.copy(INTS, INTS, 1, 1, MAX));
        no("copy from MAX", -5, x -> x.copy(INTS, INTS, MAX, 0, 1));
        no("copy to MAX", -5, x -> x.copy(INTS, INTS, 0, MAX, MAX));
        no("copy from MIN", -5, x -> x.copy(INTS, INTS, MIN, 0, MAX));
    }

    /** Promise 6: -1. */
    private static void show() {
        no("show(-1, NONE)", -1, x -> x.show(-1, -1));
        no("show(8, 0)", -1, x -> x.show(8, 0));
        no("show(0, 3) of 3", -1, x -> x.show(0, 3));
        no("show(2, -2)", -1, x -> x.show(2, -2));
        no("show(2, 100)", -1, x -> x.show(2, 100));
        no("show(2, MAX)", -1, x -> x.show(2, MAX));
        no("show(2, MIN)", -1, x -> x.show(2, MIN));
    }

    /** Promise 8: -1 SHELF, KIND; -2 also a PULL of another KIND; -3. */
    private static void says() {
        no("says(-1, 0)", -1, x -> x.says(-1, 0));
        no("says(8, 0)", -1, x -> x.says(8, 0));
        no("says(PULL, -1)", -1, x -> x.says(PULL, -1));
        no("says(NOTHING, 7)", -1, x -> x.says(NOTHING, 7));
        no("says(INTS, 7)", -1, x -> x.says(INTS, 7));
        no("says of a ROW", -2, x -> x.says(INTS, 0));
        no("says of an empty ROW", -2, x -> x.says(EMPTY, 0));
        no("says of HARD as GENTLE", -2, x -> x.says(PULL, 1));
        no("says of HARD as one under it", -2, x -> x.says(PULL, 5));
        no("says of NOTHING", -3, x -> x.says(NOTHING, 0));
    }

    /** Promise 9: -1 KIND; -6; -7. */
    private static void pull() {
        no("pull(-1, 0, 1)", -1, x -> x.pull(-1, 0, 1));
        no("pull(7, 10, 0)", -1, x -> x.pull(7, 10, 0));
        no("pull(0, -1, 1)", -6, x -> x.pull(0, -1, 1));
        no("pull(0, 10, 1)", -6, x -> x.pull(0, 10, 1));
        no("pull(0, 0, 0)", -6, x -> x.pull(0, 0, 0));
        no("pull(0, 0, 61)", -6, x -> x.pull(0, 0, 61));
        no("pull(6, MIN, MAX)", -6, x -> x.pull(6, MIN, MAX));
        no("a ninth", -7, RefusalsTest::full, x -> x.pull(0, 0, 1));
        no("a ninth of no KIND", -1, RefusalsTest::full, x -> x.pull(7, 0, 1));
        no("a ninth that may not be", -6, RefusalsTest::full, x -> x.pull(0, 0, 61));
    }

    private static TheLiningsInIt full() {
        TheLiningsInIt x = made();
        for (int p = 3; p < 8; p++) {
            x.pull(p % 7, p, p);
        }
        return x;
    }

    /** Promise 10: -5: no such one, another what. */
    private static void pullOf() {
        no("pullOf(-1, 0)", -5, x -> x.pullOf(-1, 0));
        no("pullOf(3, 0) of 3", -5, x -> x.pullOf(3, 0));
        no("pullOf(MAX, 0)", -5, x -> x.pullOf(MAX, 0));
        no("pullOf(0, -1)", -5, x -> x.pullOf(0, -1));
        no("pullOf(0, 5)", -5, x -> x.pullOf(0, 5));
    }

    /** Promises 11 to 13 and 33. */
    private static void teethLackSlack() {
        no("teeth(3)", -6, x -> x.teeth(3));
        no("teeth(41)", -6, x -> x.teeth(41));
        no("teeth(0)", -6, x -> x.teeth(0));
        no("teeth(MIN)", -6, x -> x.teeth(MIN));
        no("teeth(MAX)", -6, x -> x.teeth(MAX));
        no("lack(-1, true)", -1, x -> x.lack(-1, true));
        no("lack(10, true) of 10", -1, x -> x.lack(10, true));
        no("lack(MAX, false)", -1, x -> x.lack(MAX, false));
        no("slack(-1, 10)", -1, x -> x.slack(-1, 10));
        no("slack(10, -1) of 10", -1, x -> x.slack(10, -1));
        no("slack(0, -1)", -6, x -> x.slack(0, -1));
        no("slack(9, 10)", -6, x -> x.slack(9, 10));
        no("stitch(-1)", -1, x -> x.stitch(-1));
        no("stitch(10) of 10", -1, x -> x.stitch(10));
        no("stitch(MIN)", -1, x -> x.stitch(MIN));
    }

    /** Promise 14: -6. */
    private static void ask() {
        int[] least = {0, 0, 0, 1, 0, 0, 0, 0};
        int[] most = {24, 300, 9, 9, 99, 99, 99, 10};
        for (int what = 0; what < 8; what++) {
            int w = what;
            no("ask(" + what + ", too little)", -6, x -> x.ask(w, least[w] - 1));
            no("ask(" + what + ", too much)", -6, x -> x.ask(w, most[w] + 1));
        }
        no("ask(-1, 1)", -6, x -> x.ask(-1, 1));
        no("ask(8, 1)", -6, x -> x.ask(8, 1));
        no("ask(MIN, MIN)", -6, x -> x.ask(MIN, MIN));
    }

    /** Promise 15: -1; -2; -3; -6 a FAULT. */
    private static void jacket() {
        no("jacket(-1)", -1, x -> x.jacket(-1));
        no("jacket(8)", -1, x -> x.jacket(8));
        no("jacket of a PULL", -2, x -> x.jacket(PULL));
        no("jacket of NOTHING", -3, x -> x.jacket(NOTHING));
        no("jacket of what has the same FAULT", -6, x -> x.jacket(TEXT));
    }

    /** Promise 17: -1; -5 another what; -6 DEPTH. */
    private static void frees() {
        no("frees(-1, 0, 3)", -1, x -> x.frees(-1, 0, 3));
        no("frees(3, 1, 0) of 3", -1, x -> x.frees(3, 1, 0));
        no("frees(0, 0, 3)", -5, x -> x.frees(0, 0, 3));
        no("frees(0, 1, -1)", -5, x -> x.frees(0, 1, -1));
        no("frees(0, 0, 0)", -6, x -> x.frees(0, 0, 0));
        no("frees(0, 25, 1)", -6, x -> x.frees(0, 25, 1));
        no("frees(2, 0, 2)", -6, x -> x.frees(2, 0, 2));
        no("frees(0, MAX, 2)", -6, x -> x.frees(0, MAX, 2));
    }

    /** Promises 18 and 19: -15 another what; -16 n. */
    private static void casesAndLine() {
        no("cases(-1, 3)", -15, x -> x.cases(-1, 3));
        no("cases(1, -1)", -15, x -> x.cases(1, -1));
        no("cases(-1, 0)", -16, x -> x.cases(-1, 0));
        no("cases(5, 1)", -16, x -> x.cases(5, 1));
        no("cases(MAX, 2)", -16, x -> x.cases(MAX, 2));
        no("line(5, 2)", -15, x -> x.line(5, 2));
        no("line(0, -1)", -15, x -> x.line(0, -1));
        no("line(-1, 0)", -16, x -> x.line(-1, 0));
        no("line(5, 1)", -16, x -> x.line(5, 1));
        no("line(MIN, 1)", -16, x -> x.line(MIN, 1));
    }

    /** Promise 20: -5 another what; -6 n. */
    private static void haste() {
        no("haste(5, 2)", -5, x -> x.haste(5, 2));
        no("haste(0, -1)", -5, x -> x.haste(0, -1));
        no("haste(-1, 0)", -6, x -> x.haste(-1, 0));
        no("haste(5, 1)", -6, x -> x.haste(5, 1));
    }

    /** Promises 21 and 22: -1; -2; -3; -5 fewer than 25 elements; -6 a WEIGHT that may not be. */
    private static void freedAndBest() {
        no("freed(-1, 0)", -1, x -> x.freed(-1, 0));
        no("freed(8, 9)", -1, x -> x.freed(8, 9));
        no("freed by none such of a PULL", -1, x -> x.freed(PULL, 3));
        no("freed by none such of NOTHING", -1, x -> x.freed(NOTHING, -1));
        no("freed of a PULL", -2, x -> x.freed(PULL, 0));
        no("freed of NOTHING", -3, x -> x.freed(NOTHING, 0));
        no("freed of 24 that may not be", -5, x -> x.freed(LONGS, 0));
        no("freed of an empty ROW", -5, x -> x.freed(EMPTY, 0));
        no("freed by too much", -6, RefusalsTest::heavy, x -> x.freed(BELIEF, 0));
        no("best(-1)", -11, x -> x.best(-1));
        no("best(8)", -11, x -> x.best(8));
        no("best of a PULL", -12, x -> x.best(PULL));
        no("best of NOTHING", -13, x -> x.best(NOTHING));
        no("best of 24 that may not be", -15, x -> x.best(LONGS));
        no("best by too much", -16, RefusalsTest::heavy, x -> x.best(BELIEF));
        no("best by too little", -16, RefusalsTest::light, x -> x.best(BELIEF));
    }

    private static TheLiningsInIt heavy() {
        TheLiningsInIt x = made();
        x.set(BELIEF, 24, 100);
        return x;
    }

    private static TheLiningsInIt light() {
        TheLiningsInIt x = made();
        x.set(BELIEF, 0, -1);
        return x;
    }

    /** Promise 23: -1; -2; -3; -5; -6 also a DEPTH that may not be. */
    private static void behind() {
        no("behind(-1, 0, 25)", -1, x -> x.behind(-1, 0, 25));
        no("behind none such of a PULL", -1, x -> x.behind(PULL, 3, -1));
        no("behind of a PULL", -2, x -> x.behind(PULL, 0, 25));
        no("behind of NOTHING", -3, x -> x.behind(NOTHING, 0, 25));
        no("behind of 24", -5, x -> x.behind(LONGS, 0, 25));
        no("behind DEPTH -1", -6, x -> x.behind(BELIEF, 0, -1));
        no("behind DEPTH 25", -6, x -> x.behind(BELIEF, 0, 25));
        no("behind too much", -6, RefusalsTest::heavy, x -> x.behind(BELIEF, 0, 0));
        no("behind too little", -6, RefusalsTest::light, x -> x.behind(BELIEF, 2, 24));
    }

    /** Promises 24 to 26: -5. */
    private static void strongCatchesStitches() {
        no("strong(-1)", -5, x -> x.strong(-1));
        no("strong(4)", -5, x -> x.strong(4));
        no("catches(-2)", -5, x -> x.catches(-2));
        no("catches(2) of 2", -5, x -> x.catches(2));
        no("catches(MAX)", -5, x -> x.catches(MAX));
        no("stitches(-2)", -5, x -> x.stitches(-2));
        no("stitches(1) of 1", -5, x -> x.stitches(1));
        no("stitches(MIN)", -5, x -> x.stitches(MIN));
    }

    /** Promise 27: -11; -12; -13; -14 n; -15 fewer elements; -16 n above 20. */
    private static void judge() {
        no("judge(-1, -1)", -11, x -> x.judge(-1, -1));
        no("judge(8, 21)", -11, x -> x.judge(8, 21));
        no("judge of a PULL", -12, x -> x.judge(PULL, -1));
        no("judge of NOTHING", -13, x -> x.judge(NOTHING, -1));
        no("judge of -1", -14, x -> x.judge(INTS, -1));
        no("judge of MIN", -14, x -> x.judge(EMPTY, MIN));
        no("judge of 8 of 7", -15, x -> x.judge(INTS, 8));
        no("judge of 1 of none", -15, x -> x.judge(EMPTY, 1));
        no("judge of 25 of 24", -15, x -> x.judge(LONGS, 25));
        no("judge of 21 of 24", -16, x -> x.judge(LONGS, 21));
        no("judge of all of 24", -16, x -> x.judge(LONGS, 24));
    }

    /** Promise 28: -1; -2; -3; -4; -5 also no such i, none (i not NONE); -6 n not 1 to 20, no DEPTH. */
    private static void meant() {
        no("meant(-1, -1, 9)", -1, x -> x.meant(-1, -1, 9));
        no("meant(8, 0, -1)", -1, x -> x.meant(8, 0, -1));
        no("meant of a PULL", -2, x -> x.meant(PULL, -1, 9));
        no("meant of NOTHING", -3, x -> x.meant(NOTHING, -1, 9));
        no("meant of -1", -4, x -> x.meant(INTS, -1, 9));
        no("meant of 8 of 7", -5, x -> x.meant(INTS, 8, -1));
        no("meant of 0", -6, x -> x.meant(INTS, 0, -1));
        no("an i of 0", -6, x -> x.meant(INTS, 0, 0));
        no("no such i of 0", -6, x -> x.meant(EMPTY, 0, 5));
        no("meant of 21", -6, x -> x.meant(BELIEF, 21, -1));
        no("no such i of 21", -6, x -> x.meant(BELIEF, 21, 30));
        no("i as many as n", -5, x -> x.meant(INTS, 2, 2));
        no("i below NONE", -5, x -> x.meant(INTS, 2, -2));
        no("i of MAX", -5, x -> x.meant(INTS, 2, MAX));
        no("no DEPTH", -6, x -> x.meant(INTS, 4, -1));
        no("an i of no DEPTH", -6, x -> x.meant(INTS, 4, 3));
        no("none made it", -5, x -> x.meant(INTS, 3, 0));
    }

    /** Promises 30 to 32. */
    private static void inTruth() {
        no("pulls(-1)", -1, x -> x.pulls(-1));
        no("pulls(3) of 3", -1, x -> x.pulls(3));
        no("pulls(MAX)", -1, x -> x.pulls(MAX));
        no("pulls(1) a second too late", -6, RefusalsTest::late, x -> x.pulls(1));
        no("pulls(3) too late, none such", -1, RefusalsTest::late, x -> x.pulls(3));
        no("pulls(0) at DEPTH 0", -6, RefusalsTest::freed, x -> x.pulls(0));
        no("a TEAR at DEPTH 0", -6, RefusalsTest::freed, x -> x.pulls(2));
        no("close() at DEPTH 5", -6, x -> x.close());
        no("close() at DEPTH 1", -6, RefusalsTest::nearlyFreed, x -> x.close());
        no("winter(0)", -6, x -> x.winter(0));
        no("winter(61)", -6, x -> x.winter(61));
        no("winter(MIN)", -6, x -> x.winter(MIN));
        no("winter(MAX)", -6, x -> x.winter(MAX));
    }

    private static TheLiningsInIt late() {
        TheLiningsInIt x = made();
        x.ask(1, 4);
        return x;
    }

    private static TheLiningsInIt freed() {
        TheLiningsInIt x = made();
        x.ask(0, 0);
        return x;
    }

    private static TheLiningsInIt nearlyFreed() {
        TheLiningsInIt x = made();
        x.ask(0, 1);
        return x;
    }

    /** Promise 38: -6 there is none. */
    private static void restore() {
        no("restore() of a new object", -6, TheLiningsInIt::new, x -> x.restore());
        no("restore() without an image", -6, () -> {
            TheLiningsInIt x = new TheLiningsInIt();
            x.pull(0, 0, 1);
            x.show(0, 0);
            return x;
        }, x -> x.restore());
    }

    /** Promises 5, 7, 16, 29, 34 to 37 and 39 refuse nothing. */
    private static void neverRefused() {
        yes("element(-1, 0)", 0, x -> x.element(-1, 0));
        yes("element(8, 0)", 0, x -> x.element(8, 0));
        yes("element of a PULL", 0, x -> x.element(PULL, 0));
        yes("element of NOTHING", 0, x -> x.element(NOTHING, 0));
        yes("element(INTS, 7)", 0, x -> x.element(INTS, 7));
        yes("element(INTS, MIN)", 0, x -> x.element(INTS, MIN));
        yes("element(EMPTY, 0)", 0, x -> x.element(EMPTY, 0));
        yes("holds(-1)", -1, x -> x.holds(-1));
        yes("holds(8)", -1, x -> x.holds(8));
        yes("holds(NOTHING)", -1, x -> x.holds(NOTHING));
        yes("fault()", 4, x -> x.fault());
        yes("closed()", 5, x -> x.closed());
        yes("seed(MIN)", 1873839200, x -> x.seed(MIN));
        yes("act(-1, 0, 1)", 0, x -> x.act(-1, 0, 1));
        yes("act(3, 0, 1) of 3", 0, x -> x.act(3, 0, 1));
        yes("act(0, 3, 1)", 0, x -> x.act(0, 3, 1));
        yes("trace(-1)", -1, x -> x.trace(-1));
        yes("trace(MAX)", -1, x -> x.trace(MAX));
        yes("image()", 3, x -> x.image());
        yes("restore()", 2, x -> x.restore());
        yes("status(-1)", -1, x -> x.status(-1));
        yes("status(10)", -1, x -> x.status(10));
        yes("status(18)", -1, x -> x.status(18));
        yes("status(MAX)", -1, x -> x.status(MAX));
    }
}
