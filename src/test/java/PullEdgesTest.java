/** Promises 8 to 10 and 17, "PULLS" of the Terms and "2. A PULL": each edge that a sentence names. */
public final class PullEdgesTest {
    private static final Due DUE = new Due("PullEdgesTest");
    private static final int WAYS = 0;
    private static final int FREED = 1;
    private static final int STUCK = 2;

    public static void main(String[] args) {
        plainByQuartersOfDepth();
        gentleTwoMore();
        smearedByHalvesOfA();
        hardByThirdsOfA();
        slantBySixthsOfDepth();
        helpedTwoMoreThanSlant();
        aTearFreesAlways();
        aThirdOfHurryLess();
        neverBelowNoneOfTwelve();
        twelveAtMost();
        heldOnceInTheEnd();
        stepsToNoughtAtLeast();
        deeperByKind();
        deeperByHurryOfSix();
        twentyFourAtMost();
        mayBeByDepthAndSeconds();
        eightPullsAtMost();
        boundsOfAPull();
        whatIsToldOfAPull();
        saysByKinds();
        saysByTheHurryThereIs();
        saysOfDeepOnes();
        DUE.end();
    }

    private static TheLiningsInIt with(int kind, int a, int hurry) {
        TheLiningsInIt x = new TheLiningsInIt();
        x.pull(kind, a, 5);
        x.ask(2, hurry);
        return x;
    }

    private static void ways(int kind, int a, int hurry, int depth, int due) {
        DUE.is("kind " + kind + " a " + a + " hurry " + hurry + " frees at " + depth,
                with(kind, a, hurry).frees(0, depth, WAYS), due);
    }

    /** PULL 6 less a quarter of d (cut). */
    private static void plainByQuartersOfDepth() {
        int[][] edges = {{1, 6}, {3, 6}, {4, 5}, {7, 5}, {8, 4}, {11, 4}, {12, 3}, {19, 2}, {20, 1}, {23, 1}, {24, 0}};
        for (int[] edge : edges) {
            ways(0, 9, 0, edge[0], edge[1]);
        }
    }

    private static void gentleTwoMore() {
        int[][] edges = {{1, 8}, {3, 8}, {4, 7}, {23, 3}, {24, 2}};
        for (int[] edge : edges) {
            ways(1, 9, 0, edge[0], edge[1]);
        }
    }

    /** SMEARED a half of a (cut) more than GENTLE. */
    private static void smearedByHalvesOfA() {
        int[][] edges = {{0, 7}, {1, 7}, {2, 8}, {3, 8}, {8, 11}, {9, 11}};
        for (int[] edge : edges) {
            ways(3, edge[0], 0, 4, edge[1]);
        }
        ways(3, 9, 0, 1, 12);
        ways(3, 9, 0, 24, 6);
    }

    /** HARD as PULL, and a third of a (cut) more. */
    private static void hardByThirdsOfA() {
        int[][] edges = {{0, 5}, {2, 5}, {3, 6}, {5, 6}, {6, 7}, {8, 7}, {9, 8}};
        for (int[] edge : edges) {
            ways(2, edge[0], 0, 4, edge[1]);
        }
        ways(2, 9, 0, 24, 3);
        ways(2, 0, 0, 24, 0);
    }

    /** SLANT 8 less a sixth of d (cut). */
    private static void slantBySixthsOfDepth() {
        int[][] edges = {{1, 8}, {5, 8}, {6, 7}, {11, 7}, {12, 6}, {17, 6}, {18, 5}, {23, 5}, {24, 4}};
        for (int[] edge : edges) {
            ways(4, 9, 0, edge[0], edge[1]);
        }
    }

    private static void helpedTwoMoreThanSlant() {
        int[][] edges = {{1, 10}, {5, 10}, {6, 9}, {23, 7}, {24, 6}};
        for (int[] edge : edges) {
            ways(6, 9, 0, edge[0], edge[1]);
        }
    }

    private static void aTearFreesAlways() {
        for (int hurry = 0; hurry <= 9; hurry++) {
            ways(5, 0, hurry, 1, 12);
            ways(5, 9, hurry, 24, 12);
        }
    }

    /** Of all but TEAR a third of HURRY (cut) less. */
    private static void aThirdOfHurryLess() {
        int[] less = {0, 0, 0, 1, 1, 1, 2, 2, 2, 3};
        for (int hurry = 0; hurry <= 9; hurry++) {
            ways(0, 0, hurry, 1, 6 - less[hurry]);
            ways(1, 0, hurry, 1, 8 - less[hurry]);
            ways(2, 9, hurry, 1, 9 - less[hurry]);
            ways(3, 9, hurry, 1, 12 - less[hurry]);
            ways(4, 0, hurry, 1, 8 - less[hurry]);
            ways(6, 0, hurry, 1, 10 - less[hurry]);
        }
    }

    /** 0 at least. */
    private static void neverBelowNoneOfTwelve() {
        ways(0, 0, 2, 24, 0);
        ways(0, 0, 3, 24, 0);
        ways(0, 0, 9, 24, 0);
        ways(0, 0, 9, 12, 0);
        ways(0, 0, 9, 11, 1);
        ways(0, 0, 9, 16, 0);
        ways(1, 0, 8, 24, 0);
        ways(1, 0, 9, 24, 0);
        ways(2, 2, 9, 20, 0);
    }

    /** 12 at most: SMEARED with a of 8 comes to it, none past it. */
    private static void twelveAtMost() {
        ways(3, 8, 0, 3, 12);
        ways(3, 8, 2, 3, 12);
        ways(3, 8, 3, 3, 11);
        ways(3, 7, 0, 3, 11);
    }

    /** Details: each half or third cut by itself, and FREES held once: no KIND builds on one held at 0. */
    private static void heldOnceInTheEnd() {
        ways(1, 0, 9, 24, 0);
        ways(2, 9, 9, 24, 0);
        ways(3, 9, 9, 24, 3);
        ways(3, 1, 9, 24, 0);
        ways(6, 0, 9, 24, 3);
        ways(2, 5, 5, 1, 6);
        ways(2, 8, 8, 5, 5);
        ways(3, 5, 5, 5, 8);
    }

    /** DEPTH is less by STEP: 0 at least. */
    private static void stepsToNoughtAtLeast() {
        int[][] steps = {{0, 9, 1}, {1, 9, 1}, {2, 0, 2}, {2, 2, 2}, {2, 3, 3}, {2, 5, 3}, {2, 6, 4}, {2, 8, 4},
            {2, 9, 5}, {3, 9, 1}, {4, 9, 2}, {5, 9, 4}, {6, 9, 2}};
        for (int[] s : steps) {
            TheLiningsInIt x = with(s[0], s[1], 9);
            int step = s[2];
            DUE.is("STEP of kind " + s[0] + " a " + s[1], x.pullOf(0, 3), step);
            DUE.is("from just as deep", x.frees(0, step, FREED), 0);
            DUE.is("from one deeper", x.frees(0, step + 1, FREED), 1);
            DUE.is("from 1", x.frees(0, 1, FREED), 0);
            DUE.is("from 24", x.frees(0, 24, FREED), 24 - step);
        }
    }

    /** If it doesn't: deeper by 0; HARD by 1, and a third of a (cut). */
    private static void deeperByKind() {
        int[][] edges = {{0, 9, 0}, {1, 9, 0}, {3, 9, 0}, {4, 9, 0}, {6, 9, 0}, {5, 9, 0}, {2, 0, 1}, {2, 2, 1},
            {2, 3, 2}, {2, 6, 3}, {2, 8, 3}, {2, 9, 4}};
        for (int[] e : edges) {
            for (int hurry = 0; hurry <= 5; hurry += 5) {
                DUE.is("kind " + e[0] + " a " + e[1] + " deeper by hurry " + hurry,
                        with(e[0], e[1], hurry).frees(0, 10, STUCK), 10 + e[2]);
            }
        }
    }

    /** By 1 more of any KIND, if HURRY is 6 at least (of TEAR nothing). */
    private static void deeperByHurryOfSix() {
        for (int kind = 0; kind < 7; kind++) {
            int hard = kind == 2 ? 2 : 0;
            DUE.is("kind " + kind + " by 5", with(kind, 3, 5).frees(0, 1, STUCK), 1 + hard);
            DUE.is("kind " + kind + " by 6", with(kind, 3, 6).frees(0, 1, STUCK), kind == 5 ? 1 : 2 + hard);
            DUE.is("kind " + kind + " by 9", with(kind, 3, 9).frees(0, 1, STUCK), kind == 5 ? 1 : 2 + hard);
        }
    }

    /** Deeper (24 at most). */
    private static void twentyFourAtMost() {
        DUE.is("PULL at 23 by 6", with(0, 0, 6).frees(0, 23, STUCK), 24);
        DUE.is("PULL at 24 by 6", with(0, 0, 6).frees(0, 24, STUCK), 24);
        DUE.is("HARD at 20", with(2, 9, 0).frees(0, 20, STUCK), 24);
        DUE.is("HARD at 21", with(2, 9, 0).frees(0, 21, STUCK), 24);
        DUE.is("HARD at 24 by 9", with(2, 9, 9).frees(0, 24, STUCK), 24);
        DUE.is("HARD at 18 by 6", with(2, 9, 6).frees(0, 18, STUCK), 23);
        DUE.is("TEAR at 24", with(5, 0, 9).frees(0, 24, STUCK), 24);
    }

    /** It MAY be, if DEPTH is 1 at least and SECONDS are as many as it TAKES at least. */
    private static void mayBeByDepthAndSeconds() {
        int[] takes = {1, 60};
        for (int t : takes) {
            TheLiningsInIt x = new TheLiningsInIt();
            x.pull(4, 0, t);
            x.ask(1, t);
            DUE.is("at DEPTH 0", x.pullOf(0, 4), 0);
            x.ask(0, 1);
            DUE.is("at DEPTH 1, in the last second", x.pullOf(0, 4), 1);
            x.ask(1, t - 1);
            DUE.is("a second too late", x.pullOf(0, 4), 0);
            x.ask(1, t + 1);
            DUE.is("a second to spare", x.pullOf(0, 4), 1);
            x.ask(0, 24);
            DUE.is("at DEPTH 24", x.pullOf(0, 4), 1);
            x.ask(1, 0);
            DUE.is("with no SECONDS", x.pullOf(0, 4), 0);
        }
    }

    /** PULLS have numbers, from 0 on, 8 at most. */
    private static void eightPullsAtMost() {
        TheLiningsInIt x = new TheLiningsInIt();
        for (int p = 0; p < 8; p++) {
            DUE.is("pull " + p, x.pull(6 - p % 7, p, p + 1), p);
        }
        DUE.is("a ninth", x.pull(0, 0, 1), -7);
        DUE.is("PULLS", x.status(0), 8);
        for (int p = 0; p < 8; p++) {
            DUE.is("KIND of " + p, x.pullOf(p, 0), 6 - p % 7);
            DUE.is("a of " + p, x.pullOf(p, 1), p);
            DUE.is("TAKES of " + p, x.pullOf(p, 2), p + 1);
        }
        DUE.is("pullOf(8, 0)", x.pullOf(8, 0), -5);
    }

    /** KIND 0 to 6, a 0 to 9, TAKES 1 to 60. */
    private static void boundsOfAPull() {
        TheLiningsInIt x = new TheLiningsInIt();
        DUE.is("KIND -1", x.pull(-1, 0, 1), -1);
        DUE.is("KIND 7", x.pull(7, 0, 1), -1);
        DUE.is("a -1", x.pull(0, -1, 1), -6);
        DUE.is("a 10", x.pull(0, 10, 1), -6);
        DUE.is("TAKES 0", x.pull(0, 0, 0), -6);
        DUE.is("TAKES 61", x.pull(0, 0, 61), -6);
        DUE.is("none was made", x.status(0), 0);
        DUE.is("the least", x.pull(0, 0, 1), 0);
        DUE.is("the most", x.pull(6, 9, 60), 1);
    }

    /** Promise 10. */
    private static void whatIsToldOfAPull() {
        TheLiningsInIt x = with(5, 9, 0);
        int[] due = {5, 9, 5, 4, 0};
        for (int what = 0; what < 5; what++) {
            DUE.is("pullOf(0, " + what + ")", x.pullOf(0, what), due[what]);
        }
        DUE.is("pullOf(0, 5)", x.pullOf(0, 5), -5);
        DUE.is("pullOf(0, -1)", x.pullOf(0, -1), -5);
        DUE.is("pullOf(1, 0)", x.pullOf(1, 0), -5);
        DUE.is("pullOf(-1, 0)", x.pullOf(-1, 0), -5);
    }

    /** Which KIND is under which: rows are KINDS, columns what they are taken for. */
    private static void saysByKinds() {
        String[] under = {"1000000", "1100000", "1010000", "1101000", "1000100", "1010010", "1000101"};
        for (int kind = 0; kind < 7; kind++) {
            TheLiningsInIt x = with(kind, 4, 0);
            x.show(0, 0);
            for (int taken = 0; taken < 7; taken++) {
                boolean refused = x.says(0, taken) == -2;
                DUE.is("kind " + kind + " taken for " + taken, refused ? 0 : 1, under[kind].charAt(taken) - '0');
            }
            DUE.is("taken for -1", x.says(0, -1), -1);
            DUE.is("taken for 7", x.says(0, 7), -1);
        }
    }

    /** How many of 12 it FREES, all by the HURRY there is: a PULL says its own, whatever it is taken for. */
    private static void saysByTheHurryThereIs() {
        int[] hurries = {0, 2, 3, 9};
        int[] less = {0, 0, 1, 3};
        for (int i = 0; i < 4; i++) {
            TheLiningsInIt gentle = with(1, 9, hurries[i]);
            TheLiningsInIt smeared = with(3, 9, hurries[i]);
            TheLiningsInIt slant = with(4, 9, hurries[i]);
            TheLiningsInIt helped = with(6, 9, hurries[i]);
            gentle.show(0, 0);
            smeared.show(0, 0);
            slant.show(0, 0);
            helped.show(0, 0);
            DUE.is("GENTLE at 8", gentle.says(0, 1), 6 - less[i]);
            DUE.is("SMEARED as GENTLE at 8", smeared.says(0, 1), 10 - less[i]);
            DUE.is("SMEARED at 8", smeared.says(0, 3), 10 - less[i]);
            DUE.is("SLANT at 12", slant.says(0, 4), 6 - less[i]);
            DUE.is("HELPED as SLANT at 12", helped.says(0, 4), 8 - less[i]);
            DUE.is("HELPED at 8", helped.says(0, 6), 9 - less[i]);
            DUE.is("as PULL what it TAKES", helped.says(0, 0), 5);
        }
    }

    /** Details: what is asked of a TEAR taken for HARD is its own STEP, 4. */
    private static void saysOfDeepOnes() {
        TheLiningsInIt x = new TheLiningsInIt();
        x.pull(5, 9, 60);
        x.pull(2, 9, 1);
        x.show(7, 0);
        DUE.is("TEAR as HARD", x.says(7, 2), 4);
        DUE.is("TEAR as TEAR", x.says(7, 5), 4);
        DUE.is("TEAR as PULL", x.says(7, 0), 60);
        x.show(7, 1);
        DUE.is("HARD as HARD", x.says(7, 2), 5);
        DUE.is("HARD as PULL", x.says(7, 0), 1);
        DUE.is("says of SHELF 8", x.says(8, 0), -1);
        DUE.is("says of NOTHING", x.says(6, 0), -3);
    }
}
