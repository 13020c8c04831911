/** Promises 18 to 23, CASES, LINE, HASTE and BELIEF of section 3: each edge that a sentence names. */
public final class AheadEdgesTest {
    private static final Due DUE = new Due("AheadEdgesTest");
    private static final int CASES = 0;
    private static final int NEXT = 1;
    private static final int WHOLE = 2;
    private static final int LINE = 0;
    private static final int FIRST = 1;

    public static void main(String[] args) {
        casesOfNoPulls();
        casesAtDepthNought();
        casesOneBehindTheOther();
        casesByTheSecondsLeft();
        casesByWhatCameAhead();
        casesByHurry();
        nextIsTheFirstOfSeveral();
        nextThatMayBe();
        nextOfNone();
        nextWhereAllHaveNoCases();
        wholeWithoutTears();
        nothingIsChanged();
        lineOfNone();
        lineAtDepthNought();
        lineByThirtySeconds();
        lineOfTears();
        lineAsCheap();
        lineAtTheMost();
        hasteIsTheLeast();
        hasteOfNone();
        worseOrNot();
        beliefOfJust25();
        weightsFromNoneTo99();
        freedAtDepthNought();
        freedByNoneOfTwelve();
        bestIsTheFirstOfSeveral();
        behindTheFirstAndTheLastDepth();
        behindIsAllTogether();
        beliefOfEachSort();
        DUE.end();
    }

    private static TheLiningsInIt at(int depth, int seconds, int... pulls) {
        TheLiningsInIt x = new TheLiningsInIt();
        for (int i = 0; i + 2 < pulls.length; i += 3) {
            x.pull(pulls[i], pulls[i + 1], pulls[i + 2]);
        }
        x.ask(0, depth);
        x.ask(1, seconds);
        return x;
    }

    private static void costs(TheLiningsInIt x, int tear, int head, int miss) {
        x.ask(4, tear);
        x.ask(5, head);
        x.ask(6, miss);
    }

    /** CASES of 0 PULLS; with no PULLS at all. */
    private static void casesOfNoPulls() {
        TheLiningsInIt x = at(1, 60);
        for (int n = 0; n <= 4; n++) {
            DUE.is("CASES of " + n + " without PULLS", x.cases(n, CASES), 0);
            DUE.is("NEXT", x.cases(n, NEXT), -1);
            DUE.is("WHOLE", x.cases(n, WHOLE), 0);
        }
        x.pull(5, 0, 1);
        DUE.is("CASES of 0", x.cases(0, CASES), 0);
        DUE.is("NEXT of 0", x.cases(0, NEXT), -1);
        DUE.is("CASES of 1", x.cases(1, CASES), 12);
        DUE.is("CASES of -1", x.cases(-1, CASES), -16);
        DUE.is("CASES of 5", x.cases(5, CASES), -16);
    }

    private static void casesAtDepthNought() {
        TheLiningsInIt x = at(0, 0, 5, 0, 1);
        int[] all = {1, 12, 144, 1728, 20736};
        for (int n = 0; n <= 4; n++) {
            DUE.is("all ways of " + n, x.cases(n, CASES), all[n]);
            DUE.is("all ways of " + n + " without TEARS", x.cases(n, WHOLE), all[n]);
            DUE.is("NEXT of " + n, x.cases(n, NEXT), -1);
        }
    }

    /** 6 of 12 at DEPTH 1; once it is 0, all ways do. */
    private static void casesOneBehindTheOther() {
        TheLiningsInIt x = at(1, 60, 0, 0, 1);
        int[] due = {0, 6, 6 * 12 + 6 * 6, 6 * 144 + 6 * 108, 6 * 1728 + 6 * 1512};
        for (int n = 0; n <= 4; n++) {
            DUE.is("CASES of " + n, x.cases(n, CASES), due[n]);
        }
        x.ask(0, 4);
        DUE.is("4 deep by 4 PULLS", x.cases(4, CASES), 5 * 6 * 6 * 6);
        x.ask(0, 5);
        DUE.is("5 deep by 4 PULLS", x.cases(4, CASES), 0);
    }

    /** What MAY not be is not pulled. */
    private static void casesByTheSecondsLeft() {
        int[][] due = {{9, 0}, {10, 72}, {19, 72}, {20, 108}};
        for (int[] d : due) {
            TheLiningsInIt x = at(1, d[0], 0, 0, 10);
            DUE.is("CASES of 2 in " + d[0] + " seconds", x.cases(2, CASES), d[1]);
            DUE.is("NEXT", x.cases(2, NEXT), d[0] < 10 ? -1 : 0);
        }
        DUE.is("4 in 39", at(1, 39, 0, 0, 10).cases(4, CASES), 6 * 1728 + 6 * (6 * 144 + 6 * 72));
        DUE.is("4 in 40", at(1, 40, 0, 0, 10).cases(4, CASES), 6 * 1728 + 6 * 1512);
        DUE.is("1 of 60 in 60", at(1, 60, 5, 0, 60).cases(1, CASES), 12);
        DUE.is("1 of 60 in 59", at(1, 59, 5, 0, 60).cases(1, CASES), 0);
        DUE.is("4 of 60 in 300", at(13, 300, 5, 0, 60).cases(4, CASES), 20736);
        DUE.is("4 of 60 in 239", at(13, 239, 5, 0, 60).cases(4, CASES), 0);
    }

    /** Whichever is pulled by what came ahead. */
    private static void casesByWhatCameAhead() {
        TheLiningsInIt x = at(1, 61, 0, 0, 1, 5, 0, 60);
        DUE.is("a PULL, and a TEAR if it failed", x.cases(2, CASES), 144);
        DUE.is("begins with either: the first", x.cases(2, NEXT), 0);
        x.ask(1, 60);
        DUE.is("no more time for both", x.cases(2, CASES), 144);
        DUE.is("begins with the TEAR", x.cases(2, NEXT), 1);
        DUE.is("without it", x.cases(2, WHOLE), 108);
    }

    private static void casesByHurry() {
        TheLiningsInIt x = at(1, 60, 0, 0, 1);
        x.ask(2, 5);
        DUE.is("HURRY 5 leaves it as it is", x.cases(2, CASES), 5 * 12 + 7 * 5);
        x.ask(2, 6);
        DUE.is("HURRY 6 makes it deeper", x.cases(2, CASES), 4 * 12);
    }

    /** Of several the first (though not pulling might do as well). */
    private static void nextIsTheFirstOfSeveral() {
        DUE.is("two alike", at(1, 60, 0, 0, 9, 0, 9, 9).cases(3, NEXT), 0);
        DUE.is("the better one behind", at(1, 60, 0, 0, 9, 1, 0, 9).cases(1, NEXT), 1);
        DUE.is("two better ones", at(1, 60, 0, 0, 9, 1, 0, 9, 4, 0, 9).cases(1, NEXT), 1);
        TheLiningsInIt x = at(1, 60, 5, 0, 1);
        DUE.is("a TEAR at once, or later", x.cases(4, NEXT), 0);
        DUE.is("by all ways", x.cases(4, CASES), 20736);
    }

    private static void nextThatMayBe() {
        TheLiningsInIt x = at(1, 30, 5, 0, 31, 0, 0, 30);
        DUE.is("the TEAR takes too long", x.cases(1, NEXT), 1);
        x.ask(1, 31);
        DUE.is("it doesn't", x.cases(1, NEXT), 0);
    }

    /** NONE: none MAY be, n is 0, or DEPTH is 0. */
    private static void nextOfNone() {
        TheLiningsInIt x = at(1, 0, 5, 0, 1);
        DUE.is("none MAY be", x.cases(4, NEXT), -1);
        x.ask(1, 1);
        DUE.is("one MAY be", x.cases(4, NEXT), 0);
        DUE.is("n is 0", x.cases(0, NEXT), -1);
        x.ask(0, 0);
        DUE.is("DEPTH is 0", x.cases(4, NEXT), -1);
    }

    /** Details: NEXT is the first PULL that MAY be if all have 0 CASES. */
    private static void nextWhereAllHaveNoCases() {
        TheLiningsInIt x = at(24, 9, 6, 0, 10, 0, 0, 9, 5, 0, 9);
        DUE.is("CASES", x.cases(1, CASES), 0);
        DUE.is("NEXT", x.cases(1, NEXT), 1);
        DUE.is("NEXT of 4", x.cases(4, NEXT), 1);
    }

    /** WHOLE: CASES without any TEAR. */
    private static void wholeWithoutTears() {
        DUE.is("TEARS alone", at(1, 60, 5, 0, 1, 5, 0, 1).cases(4, WHOLE), 0);
        DUE.is("HARD is none", at(2, 60, 5, 0, 1, 2, 0, 1).cases(1, WHOLE), 6);
        DUE.is("HELPED is none", at(2, 60, 6, 0, 1, 5, 0, 1).cases(2, WHOLE), 10 * 12 + 2 * 10);
        DUE.is("another what", at(1, 60, 5, 0, 1).cases(1, 3), -15);
    }

    /** What comes of it: nothing is changed. */
    private static void nothingIsChanged() {
        TheLiningsInIt x = at(5, 41, 2, 9, 3, 5, 0, 3);
        x.ask(2, 7);
        x.cases(4, CASES);
        x.cases(4, NEXT);
        x.cases(4, WHOLE);
        x.line(4, LINE);
        x.haste(4, 0);
        x.haste(4, 1);
        int[] due = {2, 20, 0, 5, 0, 41, 7, 3, 1};
        for (int what = 0; what < due.length; what++) {
            DUE.is("status(" + what + ")", x.status(what), due[what]);
        }
    }

    /** Details: LINE with n 0 begins with HEAD or MISS, unless DEPTH is 0. */
    private static void lineOfNone() {
        TheLiningsInIt x = at(1, 60, 5, 0, 1);
        costs(x, 0, 10, 50);
        DUE.is("LINE of 0", x.line(0, LINE), 10);
        DUE.is("FIRST of 0", x.line(0, FIRST), 101);
        x.ask(1, 29);
        DUE.is("LINE of 0 too late", x.line(0, LINE), 50);
        DUE.is("FIRST of 0 too late", x.line(0, FIRST), 100);
        x.ask(0, 0);
        DUE.is("LINE of 0 at DEPTH 0", x.line(0, LINE), 0);
        DUE.is("FIRST of 0 at DEPTH 0", x.line(0, FIRST), -1);
        DUE.is("LINE of -1", x.line(-1, LINE), -16);
        DUE.is("LINE of 5", x.line(5, LINE), -16);
    }

    private static void lineAtDepthNought() {
        TheLiningsInIt x = at(0, 0, 5, 0, 1);
        for (int n = 0; n <= 4; n++) {
            DUE.is("LINE of " + n, x.line(n, LINE), 0);
            DUE.is("FIRST of " + n, x.line(n, FIRST), -1);
        }
    }

    /** HEAD takes 30 SECONDS: if SECONDS are 30 at least, behind a PULL too. */
    private static void lineByThirtySeconds() {
        DUE.is("30", at(1, 30).line(1, LINE), 120);
        DUE.is("29", at(1, 29).line(1, LINE), 600);
        TheLiningsInIt x = at(1, 30, 0, 0, 1);
        DUE.is("a PULL leaves 29", x.line(1, LINE), 120);
        DUE.is("so the HEAD", x.line(1, FIRST), 101);
        x.ask(1, 31);
        DUE.is("a PULL leaves 30", x.line(1, LINE), 60);
        DUE.is("so the PULL", x.line(1, FIRST), 0);
        x.ask(1, 1);
        DUE.is("the last second", x.line(1, LINE), 300);
        x.ask(1, 0);
        DUE.is("none", x.line(1, LINE), 600);
        DUE.is("so MISS", x.line(1, FIRST), 100);
    }

    /** Its COST, if it is a TEAR: for each one. */
    private static void lineOfTears() {
        TheLiningsInIt x = at(5, 60, 5, 0, 1);
        costs(x, 1, 99, 99);
        DUE.is("two of them", x.line(2, LINE), 288);
        DUE.is("one isn't enough", x.line(1, LINE), 99 * 12);
        DUE.is("so the HEAD, as cheap as MISS", x.line(1, FIRST), 101);
        x.ask(4, 0);
        DUE.is("one for nothing, then the HEAD", x.line(1, LINE), 99 * 12);
        DUE.is("is as cheap, so the PULL", x.line(1, FIRST), 0);
        TheLiningsInIt y = at(4, 60, 2, 9, 1);
        costs(y, 99, 99, 99);
        DUE.is("HARD costs nothing", y.line(1, LINE), 4 * 99);
    }

    /** Of several as cheap the PULLS first by number, then HEAD, then MISS. */
    private static void lineAsCheap() {
        TheLiningsInIt x = at(4, 60, 0, 0, 1, 5, 0, 1, 5, 9, 2);
        costs(x, 10, 10, 50);
        DUE.is("TEAR or HEAD", x.line(1, FIRST), 0);
        x.ask(4, 9);
        DUE.is("the first TEAR", x.line(1, FIRST), 1);
        x.ask(4, 99);
        x.ask(5, 50);
        DUE.is("a PULL, then HEAD or MISS, or these at once", x.line(1, FIRST), 0);
        DUE.is("HEAD or MISS", x.line(0, FIRST), 101);
        x.ask(6, 49);
        DUE.is("MISS is cheaper", x.line(0, FIRST), 100);
        costs(x, 0, 0, 0);
        DUE.is("all for nothing", x.line(4, LINE), 0);
        DUE.is("the first PULL", x.line(4, FIRST), 0);
        x.ask(1, 0);
        DUE.is("none MAY be, nor the HEAD", x.line(4, FIRST), 100);
    }

    private static void lineAtTheMost() {
        TheLiningsInIt x = at(24, 300, 0, 0, 1, 5, 0, 1);
        costs(x, 99, 99, 99);
        DUE.is("LINE of 4", x.line(4, LINE), 99 * 20736);
        DUE.is("FIRST: a PULL that frees never costs nothing", x.line(4, FIRST), 0);
        x.ask(1, 0);
        DUE.is("MISS", x.line(4, LINE), 99 * 20736);
        DUE.is("another what", x.line(4, 2), -15);
    }

    /** Of several the least. */
    private static void hasteIsTheLeast() {
        TheLiningsInIt x = at(1, 60, 0, 0, 1);
        x.ask(2, 9);
        for (int n = 0; n <= 4; n++) {
            DUE.is("HASTE of " + n, x.haste(n, 0), 0);
        }
        DUE.is("HURRY stays", x.status(6), 9);
        DUE.is("HASTE of -1", x.haste(-1, 0), -6);
        DUE.is("HASTE of 5", x.haste(5, 0), -6);
    }

    private static void hasteOfNone() {
        TheLiningsInIt x = at(24, 60);
        DUE.is("without PULLS", x.haste(4, 0), 0);
        DUE.is("WORSE without PULLS", x.haste(4, 1), 0);
        TheLiningsInIt y = at(0, 60, 0, 0, 1);
        DUE.is("at DEPTH 0", y.haste(4, 0), 0);
        DUE.is("WORSE at DEPTH 0", y.haste(4, 1), 0);
        y.ask(0, 1);
        DUE.is("WORSE of 0", y.haste(0, 1), 0);
    }

    /** WORSE: whether CASES are fewer by HURRY 9 than by 0. */
    private static void worseOrNot() {
        DUE.is("a PULL", at(1, 60, 0, 0, 1).haste(1, 1), 1);
        DUE.is("a TEAR", at(1, 60, 5, 0, 1).haste(1, 1), 0);
        DUE.is("a TEAR that is too late", at(1, 59, 5, 0, 60, 0, 0, 59).haste(1, 1), 1);
        DUE.is("both without CASES", at(2, 60, 0, 0, 1).haste(1, 1), 0);
        DUE.is("of more PULLS", at(2, 60, 0, 0, 1).haste(2, 1), 1);
    }

    private static TheLiningsInIt believing(int sort, int elements) {
        TheLiningsInIt x = at(0, 60, 0, 0, 1, 5, 0, 1);
        x.row(0, sort, elements);
        return x;
    }

    /** A ROW of 25 WEIGHTS: -5 fewer; what is behind them isn't looked at. */
    private static void beliefOfJust25() {
        TheLiningsInIt x = believing(2, 24);
        DUE.is("24", x.freed(0, 0), -5);
        DUE.is("24", x.best(0), -15);
        DUE.is("24", x.behind(0, 0, 0), -5);
        x.row(0, 2, 0);
        DUE.is("none", x.freed(0, 0), -5);
        x.row(0, 2, 25);
        DUE.is("25", x.freed(0, 0), 0);
        x.row(0, 2, 160);
        x.set(0, 25, 100);
        x.set(0, 24, 1);
        DUE.is("160", x.freed(0, 1), 12);
    }

    /** WEIGHTS (0 to 99). */
    private static void weightsFromNoneTo99() {
        TheLiningsInIt x = believing(2, 25);
        int[] places = {0, 1, 24};
        for (int d : places) {
            x.set(0, d, 99);
            DUE.is("99 at " + d, x.freed(0, 1), 99 * 12);
            x.set(0, d, 100);
            DUE.is("100 at " + d, x.freed(0, 1), -6);
            DUE.is("100 at " + d, x.best(0), -16);
            DUE.is("100 at " + d, x.behind(0, 1, 0), -6);
            x.set(0, d, -1);
            DUE.is("-1 at " + d, x.freed(0, 1), -6);
            x.set(0, d, 0);
            DUE.is("0 at " + d, x.freed(0, 1), 0);
        }
        for (int d = 0; d < 25; d++) {
            x.set(0, d, 99);
        }
        DUE.is("all of 99", x.freed(0, 1), 25 * 12 * 99);
        DUE.is("BEST", x.best(0), 1);
    }

    /** At DEPTH 0: 12, of any PULL. */
    private static void freedAtDepthNought() {
        TheLiningsInIt x = believing(0, 25);
        x.set(0, 0, 5);
        x.ask(2, 9);
        DUE.is("by a PULL", x.freed(0, 0), 60);
        DUE.is("by a TEAR", x.freed(0, 1), 60);
        DUE.is("all stays", x.behind(0, 0, 0), 60);
        DUE.is("none of it deeper", x.behind(0, 0, 1), 0);
    }

    private static void freedByNoneOfTwelve() {
        TheLiningsInIt x = believing(0, 25);
        x.set(0, 24, 7);
        DUE.is("FREED", x.freed(0, 0), 0);
        DUE.is("BEHIND 24", x.behind(0, 0, 24), 84);
        DUE.is("BEHIND 23", x.behind(0, 0, 23), 0);
        DUE.is("by a TEAR", x.behind(0, 1, 20), 84);
        DUE.is("of a TEAR none stays", x.behind(0, 1, 24), 0);
    }

    /** Of several the first; without WEIGHTS the first; NONE: no PULLS. */
    private static void bestIsTheFirstOfSeveral() {
        TheLiningsInIt x = new TheLiningsInIt();
        x.row(0, 1, 25);
        DUE.is("no PULLS", x.best(0), -1);
        x.pull(0, 0, 1);
        DUE.is("one PULL without WEIGHTS", x.best(0), 0);
        x.pull(1, 0, 1);
        x.pull(4, 0, 1);
        DUE.is("three without WEIGHTS", x.best(0), 0);
        x.set(0, 3, 1);
        DUE.is("GENTLE and SLANT are as good at 3", x.best(0), 1);
        x.set(0, 4, 1);
        DUE.is("SLANT is better at 4", x.best(0), 2);
        x.ask(1, 0);
        x.ask(0, 0);
        DUE.is("whether they MAY be isn't asked", x.best(0), 2);
    }

    private static void behindTheFirstAndTheLastDepth() {
        TheLiningsInIt x = at(0, 60, 2, 9, 1);
        x.row(0, 0, 25);
        int[] weights = {3, 1, 1, 1, 1, 1, 1};
        for (int d = 0; d < weights.length; d++) {
            x.set(0, d, weights[d]);
        }
        for (int d = 19; d < 25; d++) {
            x.set(0, d, 1);
        }
        DUE.is("BEHIND 0: what a STEP of 5 brings there", x.behind(0, 0, 0), 36 + 9 + 9 + 9 + 8 + 8);
        DUE.is("BEHIND 1", x.behind(0, 0, 1), 8);
        DUE.is("BEHIND 24: 20 to 24, deeper by 4", x.behind(0, 0, 24), 8 + 8 + 8 + 8 + 9);
        DUE.is("BEHIND 23", x.behind(0, 0, 23), 7);
        DUE.is("BEHIND 25", x.behind(0, 0, 25), -6);
        DUE.is("BEHIND -1", x.behind(0, 0, -1), -6);
    }

    /** What comes to all DEPTHS is all there was, times 12. */
    private static void behindIsAllTogether() {
        for (int kind = 0; kind < 7; kind++) {
            TheLiningsInIt x = at(0, 60, kind, 9, 1);
            x.ask(2, 8);
            x.row(0, 0, 25);
            for (int d = 0; d < 25; d++) {
                x.set(0, d, d * 4);
            }
            int all = 0;
            for (int d = 0; d < 25; d++) {
                all += x.behind(0, 0, d);
            }
            DUE.is("all of kind " + kind, all, 12 * 4 * 300);
        }
    }

    /** Elements of a ROW of longs count by their lowest 32 bits; what is put in keeps its lowest bits. */
    private static void beliefOfEachSort() {
        for (int sort = 0; sort < 4; sort++) {
            TheLiningsInIt x = believing(sort, 25);
            x.set(0, 24, 99 + (1L << 40));
            DUE.is("sort " + sort, x.freed(0, 1), 99 * 12);
            x.set(0, 24, sort == 3 ? 1L << 32 : 1L << (8 << sort));
            DUE.is("none is left, sort " + sort, x.freed(0, 1), 0);
            x.set(0, 24, sort == 3 ? 1L << 31 : 1L << (8 << sort) - 1);
            DUE.is("below 0, sort " + sort, x.freed(0, 1), -6);
        }
    }
}
