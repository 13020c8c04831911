/** Promises 11 to 13, 24 to 26, 29 and 33, TEETH and SLACK of the Terms: each edge that a sentence names. */
public final class ZipEdgesTest {
    private static final Due DUE = new Due("ZipEdgesTest");

    public static void main(String[] args) {
        fourToFortyTeeth();
        teethAreAllAnew();
        teethThatComeBackAreThere();
        lackTellsWhatWas();
        slackFromNoneToNine();
        atFollowsTheTeeth();
        holdsWithTwoSideBySide();
        holdsNotWithThreeAtEitherEnd();
        frailAtTheEnds();
        frailOfNone();
        spareOfFewAndOfMany();
        spareBesideWhatLacks();
        lackingAreCounted();
        catchesByTheGap();
        catchesNotWhereItLacks();
        catchesFirstAndLast();
        stitchesOfNone();
        stitchesAtTheEnds();
        stitchesAsFarOnAsMayBe();
        stitchesOfAll();
        stitchesPassWhatLacks();
        closedAtOnce();
        closedByTwoIsNone();
        closedByThreeAtTheEnd();
        closedFromWhereItIs();
        closedAsksNotForDepth();
        stitchAtTheEnds();
        stitchTakesWhatLacksToo();
        DUE.end();
    }

    private static TheLiningsInIt of(int teeth) {
        TheLiningsInIt x = new TheLiningsInIt();
        x.teeth(teeth);
        return x;
    }

    private static void lacks(TheLiningsInIt x, int... teeth) {
        for (int tooth : teeth) {
            x.lack(tooth, true);
        }
    }

    private static void slacks(TheLiningsInIt x, int v, int... teeth) {
        for (int tooth : teeth) {
            x.slack(tooth, v);
        }
    }

    /** Promise 11: n 4 to 40; how many there were. */
    private static void fourToFortyTeeth() {
        TheLiningsInIt x = new TheLiningsInIt();
        DUE.is("3", x.teeth(3), -6);
        DUE.is("41", x.teeth(41), -6);
        DUE.is("still 20", x.status(1), 20);
        DUE.is("4", x.teeth(4), 20);
        DUE.is("40", x.teeth(40), 4);
        DUE.is("40 once more", x.teeth(40), 40);
        DUE.is("the last of 40", x.lack(39, true), 0);
        DUE.is("none behind it", x.lack(40, true), -1);
    }

    /** All there, no SLACK, AT 0; DEPTH, GAP and all else stay. */
    private static void teethAreAllAnew() {
        TheLiningsInIt x = new TheLiningsInIt();
        for (int tooth = 0; tooth < 20; tooth++) {
            x.lack(tooth, true);
            x.slack(tooth, 9);
        }
        x.ask(7, 20);
        x.ask(0, 24);
        x.ask(3, 9);
        DUE.is("as many again", x.teeth(20), 20);
        DUE.is("LACKING", x.strong(3), 0);
        DUE.is("AT", x.status(2), 0);
        DUE.is("DEPTH stays", x.status(3), 24);
        DUE.is("GAP stays", x.status(7), 9);
        for (int tooth = 0; tooth < 20; tooth++) {
            DUE.is("SLACK of " + tooth, x.slack(tooth, 0), 0);
        }
    }

    private static void teethThatComeBackAreThere() {
        TheLiningsInIt x = of(40);
        lacks(x, 37, 38, 39);
        slacks(x, 9, 35, 36);
        x.teeth(4);
        DUE.is("it holds", x.strong(0), 1);
        DUE.is("a TOOTH that isn't", x.slack(4, 1), -1);
        x.teeth(40);
        DUE.is("none is LACKING", x.strong(3), 0);
        DUE.is("none CATCHES", x.catches(-1), 0);
    }

    /** Promise 12. */
    private static void lackTellsWhatWas() {
        TheLiningsInIt x = new TheLiningsInIt();
        boolean[] is = {true, true, false, false, true};
        int[] was = {0, 1, 1, 0, 0};
        for (int i = 0; i < 5; i++) {
            DUE.is("first TOOTH " + i, x.lack(0, is[i]), was[i]);
            DUE.is("last TOOTH " + i, x.lack(19, is[i]), was[i]);
        }
        DUE.is("below the first", x.lack(-1, true), -1);
        DUE.is("behind the last", x.lack(20, false), -1);
    }

    /** Promise 13: 0 to 9. */
    private static void slackFromNoneToNine() {
        TheLiningsInIt x = new TheLiningsInIt();
        DUE.is("9", x.slack(0, 9), 0);
        DUE.is("10", x.slack(0, 10), -6);
        DUE.is("-1", x.slack(0, -1), -6);
        DUE.is("0", x.slack(0, 0), 9);
        DUE.is("0 again", x.slack(0, 0), 0);
        DUE.is("the last", x.slack(19, 9), 0);
        DUE.is("behind the last, too much", x.slack(20, 10), -1);
    }

    /** The RUNNER is AT 0 to n. */
    private static void atFollowsTheTeeth() {
        int[] sizes = {4, 20, 40};
        for (int n : sizes) {
            TheLiningsInIt x = of(n);
            DUE.is("AT n", x.ask(7, n), 0);
            DUE.is("AT n and 1", x.ask(7, n + 1), -6);
            DUE.is("AT -1", x.ask(7, -1), -6);
            DUE.is("AT", x.status(2), n);
        }
    }

    /** HOLDS: no 3 TEETH side by side are LACKING. */
    private static void holdsWithTwoSideBySide() {
        TheLiningsInIt x = of(8);
        DUE.is("all there", x.strong(0), 1);
        lacks(x, 0, 1, 3, 4, 6, 7);
        DUE.is("two and two and two", x.strong(0), 1);
        DUE.is("FRAIL is each that is there", x.strong(1), 2);
        DUE.is("SPARE is none", x.strong(2), 0);
    }

    private static void holdsNotWithThreeAtEitherEnd() {
        TheLiningsInIt x = of(4);
        lacks(x, 0, 1, 2);
        DUE.is("the first three", x.strong(0), 0);
        x.lack(0, false);
        DUE.is("two of them", x.strong(0), 1);
        x.lack(3, true);
        DUE.is("the last three", x.strong(0), 0);
        DUE.is("FRAIL", x.strong(1), 0);
        DUE.is("SPARE", x.strong(2), 0);
        DUE.is("LACKING", x.strong(3), 3);
        x.lack(0, true);
        DUE.is("all four", x.strong(0), 0);
        DUE.is("LACKING", x.strong(3), 4);
        TheLiningsInIt y = of(40);
        lacks(y, 37, 38, 39);
        DUE.is("the last three of 40", y.strong(0), 0);
    }

    /** FRAIL: those that are there and would, alone LACKING, make it hold no more. */
    private static void frailAtTheEnds() {
        TheLiningsInIt x = of(6);
        lacks(x, 0, 1);
        DUE.is("behind the first two", x.strong(1), 1);
        x.lack(0, false);
        DUE.is("behind one alone", x.strong(1), 0);
        lacks(x, 3);
        DUE.is("between two", x.strong(1), 1);
        x.lack(1, false);
        x.lack(3, false);
        lacks(x, 4, 5);
        DUE.is("ahead of the last two", x.strong(1), 1);
        x.lack(4, false);
        lacks(x, 2, 3);
        DUE.is("either side of two, beside one more", x.strong(1), 2);
    }

    private static void frailOfNone() {
        TheLiningsInIt x = of(4);
        DUE.is("none LACKS", x.strong(1), 0);
        lacks(x, 0);
        DUE.is("one LACKS", x.strong(1), 0);
        lacks(x, 1, 2);
        DUE.is("it doesn't hold", x.strong(1), 0);
    }

    /** SPARE: the most that may be LACKING besides so that it holds still. */
    private static void spareOfFewAndOfMany() {
        int[][] due = {{4, 3}, {5, 4}, {6, 4}, {7, 5}, {8, 6}, {20, 14}, {38, 26}, {39, 26}, {40, 27}};
        for (int[] d : due) {
            DUE.is("SPARE of " + d[0], of(d[0]).strong(2), d[1]);
        }
    }

    private static void spareBesideWhatLacks() {
        TheLiningsInIt x = of(5);
        lacks(x, 2);
        DUE.is("the middle one of 5", x.strong(2), 2);
        lacks(x, 1);
        DUE.is("and the one ahead", x.strong(2), 1);
        lacks(x, 4);
        DUE.is("and the last", x.strong(2), 0);
        lacks(x, 3);
        DUE.is("it doesn't hold", x.strong(2), 0);
        TheLiningsInIt y = of(4);
        lacks(y, 1, 2);
        DUE.is("neither end of 4", y.strong(2), 0);
    }

    private static void lackingAreCounted() {
        TheLiningsInIt x = of(40);
        for (int tooth = 0; tooth < 40; tooth++) {
            DUE.is("LACKING", x.strong(3), tooth);
            x.lack(tooth, true);
        }
        DUE.is("all", x.strong(3), 40);
        DUE.is("another what", x.strong(4), -5);
    }

    /** CATCHES: SLACK of GAP at least. */
    private static void catchesByTheGap() {
        for (int gap = 1; gap <= 9; gap++) {
            TheLiningsInIt x = new TheLiningsInIt();
            x.ask(3, gap);
            x.slack(7, gap - 1);
            DUE.is("one less than GAP " + gap, x.catches(-1), 0);
            x.slack(7, gap);
            DUE.is("GAP " + gap, x.catches(-1), 1);
            x.ask(3, Math.min(9, gap + 1));
            DUE.is("a wider GAP", x.catches(-1), gap == 9 ? 1 : 0);
        }
    }

    private static void catchesNotWhereItLacks() {
        TheLiningsInIt x = new TheLiningsInIt();
        slacks(x, 9, 3, 4);
        lacks(x, 3);
        DUE.is("how many", x.catches(-1), 1);
        DUE.is("the first", x.catches(0), 4);
        DUE.is("the second", x.catches(1), -5);
        x.lack(3, false);
        DUE.is("there again, with its SLACK", x.catches(0), 3);
    }

    private static void catchesFirstAndLast() {
        TheLiningsInIt x = of(40);
        DUE.is("how many of none", x.catches(-1), 0);
        DUE.is("the first of none", x.catches(0), -5);
        slacks(x, 9, 0, 39);
        DUE.is("how many", x.catches(-1), 2);
        DUE.is("the first", x.catches(0), 0);
        DUE.is("the last", x.catches(1), 39);
        DUE.is("one more", x.catches(2), -5);
        DUE.is("below NONE", x.catches(-2), -5);
        for (int tooth = 0; tooth < 40; tooth++) {
            x.slack(tooth, 3);
        }
        DUE.is("all", x.catches(-1), 40);
        DUE.is("the last of all", x.catches(39), 39);
        DUE.is("behind all", x.catches(40), -5);
    }

    private static void stitchesOfNone() {
        TheLiningsInIt x = new TheLiningsInIt();
        DUE.is("how few", x.stitches(-1), 0);
        DUE.is("the first", x.stitches(0), -5);
        DUE.is("below NONE", x.stitches(-2), -5);
        x.slack(3, 2);
        DUE.is("SLACK under the GAP", x.stitches(-1), 0);
    }

    /** The i-th, each as far on as may be: at the last TOOTH at most. */
    private static void stitchesAtTheEnds() {
        int[][] due = {{0, 2}, {1, 3}, {2, 4}, {3, 5}, {4, 5}, {5, 5}};
        for (int[] d : due) {
            TheLiningsInIt x = of(6);
            x.slack(d[0], 3);
            DUE.is("for " + d[0] + " alone", x.stitches(-1), 1);
            DUE.is("it stands at", x.stitches(0), d[1]);
            DUE.is("no second", x.stitches(1), -5);
        }
    }

    /** A STITCH at a TOOTH takes the SLACK from it and the 2 on either side. */
    private static void stitchesAsFarOnAsMayBe() {
        TheLiningsInIt x = of(12);
        slacks(x, 3, 1, 5);
        DUE.is("4 further is of the same", x.stitches(-1), 1);
        DUE.is("at", x.stitches(0), 3);
        x.slack(5, 0);
        x.slack(6, 3);
        DUE.is("5 further isn't", x.stitches(-1), 2);
        DUE.is("the first at", x.stitches(0), 3);
        DUE.is("the second at", x.stitches(1), 8);
        DUE.is("no third", x.stitches(2), -5);
        DUE.is("nothing is taken", x.slack(6, 3), 3);
    }

    private static void stitchesOfAll() {
        int[][] due = {{4, 1}, {5, 1}, {6, 2}, {10, 2}, {11, 3}, {40, 8}};
        for (int[] d : due) {
            TheLiningsInIt x = of(d[0]);
            for (int tooth = 0; tooth < d[0]; tooth++) {
                x.slack(tooth, 9);
            }
            DUE.is("of " + d[0], x.stitches(-1), d[1]);
            DUE.is("the last of " + d[0], x.stitches(d[1] - 1), Math.min(d[0] - 1, d[1] * 5 - 3));
        }
    }

    private static void stitchesPassWhatLacks() {
        TheLiningsInIt x = of(20);
        slacks(x, 9, 2, 3, 9);
        lacks(x, 2, 5);
        DUE.is("how few", x.stitches(-1), 2);
        DUE.is("from the first that CATCHES on, at one LACKING", x.stitches(0), 5);
        DUE.is("the second", x.stitches(1), 11);
    }

    /** CLOSED: to the first TOOTH from AT on that CATCHES, or LACKS with the next two; else n. */
    private static void closedAtOnce() {
        TheLiningsInIt x = of(4);
        DUE.is("nothing in the way", x.closed(), 4);
        x.slack(3, 3);
        DUE.is("to the last", x.closed(), 3);
        x.slack(0, 3);
        DUE.is("not from the first", x.closed(), 0);
        x.ask(7, 4);
        DUE.is("from n", x.closed(), 4);
        DUE.is("AT stays", x.status(2), 4);
    }

    private static void closedByTwoIsNone() {
        TheLiningsInIt x = of(6);
        lacks(x, 0, 1, 3, 4);
        DUE.is("two and two", x.closed(), 6);
        x.lack(3, false);
        lacks(x, 5);
        DUE.is("the last two", x.closed(), 6);
        lacks(x, 3);
        DUE.is("the last three", x.closed(), 3);
    }

    private static void closedByThreeAtTheEnd() {
        TheLiningsInIt x = of(40);
        lacks(x, 37, 38, 39);
        DUE.is("at their first", x.closed(), 37);
        x.ask(7, 37);
        DUE.is("from their first", x.closed(), 37);
        x.ask(7, 38);
        DUE.is("from their second", x.closed(), 40);
    }

    private static void closedFromWhereItIs() {
        TheLiningsInIt x = of(10);
        slacks(x, 3, 2, 6);
        x.ask(7, 2);
        DUE.is("from the one that CATCHES", x.closed(), 2);
        x.ask(7, 3);
        DUE.is("from behind it", x.closed(), 6);
        x.ask(7, 7);
        DUE.is("from behind both", x.closed(), 10);
        lacks(x, 6, 7, 8, 9);
        DUE.is("four LACK, from the second", x.closed(), 7);
    }

    private static void closedAsksNotForDepth() {
        TheLiningsInIt x = of(10);
        x.ask(0, 5);
        x.ask(7, 1);
        DUE.is("as far at DEPTH 5", x.closed(), 10);
    }

    /** Promise 33: how much SLACK it took. */
    private static void stitchAtTheEnds() {
        TheLiningsInIt x = of(4);
        slacks(x, 9, 0, 1, 2, 3);
        DUE.is("at the first", x.stitch(0), 27);
        DUE.is("what is left", x.stitch(3), 9);
        DUE.is("nothing is left", x.stitch(1), 0);
        slacks(x, 9, 0, 1, 2, 3);
        DUE.is("at the second: all", x.stitch(1), 36);
        TheLiningsInIt y = of(40);
        slacks(y, 9, 33, 34, 35, 36, 37, 38, 39);
        DUE.is("at the last", y.stitch(39), 27);
        DUE.is("in the middle", y.stitch(35), 36);
        DUE.is("no such", y.stitch(40), -1);
        DUE.is("none below", y.stitch(-1), -1);
    }

    private static void stitchTakesWhatLacksToo() {
        TheLiningsInIt x = of(10);
        slacks(x, 2, 3, 4, 5, 6, 7, 8);
        lacks(x, 4, 5);
        DUE.is("under the GAP, and LACKING", x.stitch(5), 10);
        DUE.is("LACKING still", x.strong(3), 2);
        DUE.is("SLACK of 8 stays", x.slack(8, 0), 2);
        DUE.is("SLACK of 7 is taken", x.slack(7, 0), 0);
    }
}
