/** Promises 30 to 32 and 34, IN TRUTH of section 3: each edge that a sentence names. */
public final class TruthEdgesTest {
    private static final Due DUE = new Due("TruthEdgesTest");

    public static void main(String[] args) {
        seedsOfAllInts();
        drawsHaveNoSign();
        freesBelowItsWays();
        freesNeverOfNone();
        aTearFreesByAnyDraw();
        pullsToNoughtAndTo24();
        pullsInTheLastSecond();
        tornByEachTear();
        closesFromNAndToN();
        closesOnlyAtDepthNought();
        caughtBelowSlackLessGapAndOne();
        caughtByOneToSix();
        caughtNotWhereItLacks();
        staysWhereThreeLack();
        drawsAtEachThatCatches();
        wintersOfOneAndOf60();
        aDayBeginsAnew();
        aDayEndsCaught();
        noSecondsForAPull();
        twelvePullsAtMost();
        threeClosingsAtMost();
        daysByTheBetterPull();
        DUE.end();
    }

    private static int after(int seed) {
        return seed * 1103515245 + 12345;
    }

    private static int drawn(int seed, int n) {
        return (after(seed) >>> 16) % n;
    }

    /** A seed whose next draw below n is v. */
    private static int seedFor(int n, int v) {
        for (int seed = 0; seed < 100000; seed++) {
            if (drawn(seed, n) == v) {
                return seed;
            }
        }
        return 0;
    }

    private static TheLiningsInIt at(int depth, int... pulls) {
        TheLiningsInIt x = new TheLiningsInIt();
        for (int i = 0; i + 2 < pulls.length; i += 3) {
            x.pull(pulls[i], pulls[i + 1], pulls[i + 2]);
        }
        x.ask(0, depth);
        return x;
    }

    /** Promise 34: nothing is refused. */
    private static void seedsOfAllInts() {
        TheLiningsInIt x = new TheLiningsInIt();
        int[] seeds = {Integer.MIN_VALUE, Integer.MAX_VALUE, -1, 0, 1};
        int was = 1;
        for (int seed : seeds) {
            DUE.is("seed(" + seed + ")", x.seed(seed), was);
            DUE.is("status(8)", x.status(8), seed);
            was = seed;
        }
        DUE.is("NONE as a SEED is no refusal", x.status(16), 0);
    }

    /** An int, wrapping; its upper 16 bits, no sign. */
    private static void drawsHaveNoSign() {
        int[] seeds = {0, 1, 2, 3, -1, -2, Integer.MAX_VALUE, Integer.MIN_VALUE, 99, 1103515245};
        int below = 0;
        for (int seed : seeds) {
            TheLiningsInIt x = at(1, 0, 0, 1);
            x.seed(seed);
            int draw = (int) ((after(seed) & 0xffffffffL) / 65536 % 12);
            DUE.is("pulls(0) by " + seed, x.pulls(0), draw < 6 ? 0 : 1);
            DUE.is("SEED", x.status(8), after(seed));
            below += after(seed) < 0 ? 1 : 0;
        }
        DUE.is("some were below 0", below > 0 ? 1 : 0, 1);
        TheLiningsInIt x = at(1, 0, 0, 1);
        x.pulls(0);
        DUE.is("the first SEED becomes", x.status(8), 1103527590);
    }

    /** It FREES, if a DRAW below 12 is below how many of 12 it FREES. */
    private static void freesBelowItsWays() {
        int[][] pulls = {{0, 0, 3, 6}, {0, 0, 4, 5}, {1, 0, 1, 8}, {3, 9, 4, 11}, {3, 9, 3, 12}, {4, 0, 24, 4}, {6, 0, 1, 10}};
        for (int[] p : pulls) {
            for (int draw = 0; draw < 12; draw++) {
                TheLiningsInIt x = at(p[2], p[0], p[1], 1);
                x.seed(seedFor(12, draw));
                int step = x.pullOf(0, 3);
                int due = draw < p[3] ? Math.max(0, p[2] - step) : p[2];
                DUE.is("kind " + p[0] + " at " + p[2] + " by a draw of " + draw, x.pulls(0), due);
            }
        }
    }

    private static void freesNeverOfNone() {
        TheLiningsInIt x = at(24, 0, 0, 1);
        x.seed(seedFor(12, 0));
        DUE.is("0 of 12 by a draw of 0", x.pulls(0), 24);
        x.ask(2, 3);
        x.ask(0, 23);
        x.seed(seedFor(12, 0));
        DUE.is("0 of 12 by HURRY", x.pulls(0), 23);
    }

    private static void aTearFreesByAnyDraw() {
        for (int draw = 0; draw < 12; draw++) {
            TheLiningsInIt x = at(5, 5, 0, 1);
            x.ask(2, 9);
            x.seed(seedFor(12, draw));
            DUE.is("a TEAR by a draw of " + draw, x.pulls(0), 1);
            DUE.is("it draws all the same", x.status(8), after(seedFor(12, draw)));
        }
    }

    /** DEPTH 0 at least, 24 at most. */
    private static void pullsToNoughtAndTo24() {
        TheLiningsInIt x = at(3, 2, 9, 1);
        x.seed(seedFor(12, 0));
        DUE.is("by a STEP of 5 from 3", x.pulls(0), 0);
        DUE.is("no more", x.pulls(0), -6);
        x.ask(0, 22);
        x.seed(seedFor(12, 11));
        DUE.is("deeper by 4 from 22", x.pulls(0), 24);
        x.ask(0, 19);
        x.seed(seedFor(12, 11));
        DUE.is("deeper by 4 from 19", x.pulls(0), 23);
        x.ask(0, 19);
        x.ask(2, 6);
        x.seed(seedFor(12, 11));
        DUE.is("deeper by 5 from 19", x.pulls(0), 24);
    }

    /** SECONDS are what it TAKES less: it MAY be with as many. */
    private static void pullsInTheLastSecond() {
        TheLiningsInIt x = at(24, 0, 0, 60);
        DUE.is("60 of 60", x.pulls(0), 24);
        DUE.is("none is left", x.status(5), 0);
        DUE.is("no more", x.pulls(0), -6);
        x.ask(1, 59);
        DUE.is("60 of 59", x.pulls(0), -6);
        DUE.is("59 are left", x.status(5), 59);
        DUE.is("none such", x.pulls(1), -1);
        x.ask(1, 300);
        x.pulls(0);
        DUE.is("240 are left", x.status(5), 240);
    }

    /** A TEAR makes TORN 1 more. */
    private static void tornByEachTear() {
        TheLiningsInIt x = at(24, 5, 0, 1, 2, 0, 1);
        for (int i = 1; i <= 6; i++) {
            DUE.is("DEPTH", x.pulls(0), 24 - 4 * i);
            DUE.is("TORN", x.status(4), i);
        }
        DUE.is("a TEAR that MAY not be", x.pulls(0), -6);
        x.ask(0, 1);
        x.pulls(1);
        DUE.is("HARD tears nothing", x.status(4), 6);
    }

    /** A CLOSING from AT on. */
    private static void closesFromNAndToN() {
        int[] sizes = {4, 20, 40};
        for (int n : sizes) {
            TheLiningsInIt x = new TheLiningsInIt();
            x.teeth(n);
            DUE.is("from 0", x.close(), n);
            DUE.is("from n", x.close(), n);
            x.slack(n - 1, 9);
            DUE.is("from n, past the last", x.close(), n);
            x.ask(3, 9);
            x.ask(7, n - 1);
            x.seed(seedFor(10, 1));
            DUE.is("from the last", x.close(), n);
            DUE.is("SECONDS stay", x.status(5), 60);
        }
    }

    private static void closesOnlyAtDepthNought() {
        TheLiningsInIt x = at(1);
        DUE.is("at DEPTH 1", x.close(), -6);
        x.ask(0, 24);
        DUE.is("at DEPTH 24", x.close(), -6);
        DUE.is("AT", x.status(2), 0);
        x.ask(0, 0);
        DUE.is("at DEPTH 0", x.close(), 20);
    }

    /** Details: a DRAW is compared with SLACK less GAP, and 1. */
    private static void caughtBelowSlackLessGapAndOne() {
        int[][] edges = {{9, 1, 9}, {9, 9, 1}, {3, 3, 1}, {4, 3, 2}, {1, 1, 1}, {5, 2, 4}};
        for (int[] e : edges) {
            for (int draw = 0; draw < 10; draw++) {
                TheLiningsInIt x = new TheLiningsInIt();
                x.ask(3, e[1]);
                x.slack(7, e[0]);
                x.seed(seedFor(10, draw));
                boolean caught = draw < e[2];
                DUE.is("SLACK " + e[0] + " GAP " + e[1] + " draw " + draw, x.close(), caught ? 7 : 20);
                DUE.is("caught", x.status(3) > 0 ? 1 : 0, caught ? 1 : 0);
            }
        }
    }

    /** DEPTH is 1 and a DRAW below 6. */
    private static void caughtByOneToSix() {
        boolean[] seen = new boolean[7];
        for (int seed = 0; seed < 200; seed++) {
            TheLiningsInIt x = new TheLiningsInIt();
            x.ask(3, 1);
            x.slack(0, 9);
            x.seed(seed);
            boolean caught = drawn(seed, 10) < 9;
            int depth = caught ? 1 + drawn(after(seed), 6) : 0;
            DUE.is("close() by " + seed, x.close(), caught ? 0 : 20);
            DUE.is("DEPTH by " + seed, x.status(3), depth);
            DUE.is("SEED by " + seed, x.status(8), caught ? after(after(seed)) : after(seed));
            seen[depth] = true;
        }
        for (int depth = 0; depth <= 6; depth++) {
            DUE.is("DEPTH " + depth + " came", seen[depth] ? 1 : 0, 1);
        }
    }

    private static void caughtNotWhereItLacks() {
        TheLiningsInIt x = new TheLiningsInIt();
        x.slack(7, 9);
        x.lack(7, true);
        x.slack(8, 2);
        DUE.is("LACKING, or SLACK under the GAP", x.close(), 20);
        DUE.is("no DRAW", x.status(8), 1);
    }

    /** At one that LACKS with the next two it stays. */
    private static void staysWhereThreeLack() {
        TheLiningsInIt x = new TheLiningsInIt();
        x.teeth(4);
        x.lack(1, true);
        x.lack(2, true);
        DUE.is("two", x.close(), 4);
        x.lack(3, true);
        x.ask(7, 0);
        DUE.is("three, the last ones", x.close(), 1);
        DUE.is("from there", x.close(), 1);
        DUE.is("DEPTH", x.status(3), 0);
        x.ask(7, 2);
        DUE.is("from the second of them", x.close(), 4);
        DUE.is("no DRAW", x.status(8), 1);
    }

    private static void drawsAtEachThatCatches() {
        TheLiningsInIt x = new TheLiningsInIt();
        for (int tooth = 0; tooth < 20; tooth += 5) {
            x.slack(tooth, 3);
        }
        int seed = 0;
        while (drawn(seed, 10) == 0 || drawn(after(seed), 10) == 0 || drawn(after(after(seed)), 10) != 0) {
            seed++;
        }
        x.seed(seed);
        DUE.is("caught at the third", x.close(), 10);
        DUE.is("four DRAWS", x.status(8), after(after(after(after(seed)))));
    }

    /** Promise 32: n 1 to 60. */
    private static void wintersOfOneAndOf60() {
        TheLiningsInIt x = new TheLiningsInIt();
        DUE.is("0", x.winter(0), -6);
        DUE.is("1", x.winter(1), 1);
        DUE.is("60", x.winter(60), 60);
        DUE.is("61", x.winter(61), -6);
        DUE.is("-1", x.winter(-1), -6);
        x.lack(0, true);
        x.lack(1, true);
        x.lack(2, true);
        DUE.is("never", x.winter(60), 0);
        DUE.is("AT", x.status(2), 0);
    }

    /** Each: AT 0, DEPTH 0, SECONDS 60. */
    private static void aDayBeginsAnew() {
        TheLiningsInIt x = at(24, 5, 0, 1);
        x.ask(1, 0);
        x.ask(7, 20);
        DUE.is("it comes to n", x.winter(1), 1);
        DUE.is("DEPTH", x.status(3), 0);
        DUE.is("SECONDS", x.status(5), 60);
        DUE.is("TORN", x.status(4), 0);
        x.lack(3, true);
        x.lack(4, true);
        x.lack(5, true);
        x.ask(7, 20);
        x.ask(1, 300);
        DUE.is("AT n it isn't at first", x.winter(1), 0);
        DUE.is("AT", x.status(2), 3);
        DUE.is("SECONDS", x.status(5), 60);
    }

    /** As long as NEXT of 2 PULLS isn't NONE: without PULLS the day is over. */
    private static void aDayEndsCaught() {
        TheLiningsInIt x = new TheLiningsInIt();
        x.ask(3, 1);
        x.slack(2, 9);
        int seed = seedFor(10, 8);
        x.seed(seed);
        DUE.is("caught", x.winter(1), 0);
        DUE.is("AT", x.status(2), 2);
        DUE.is("DEPTH", x.status(3), 1 + drawn(after(seed), 6));
        DUE.is("two DRAWS", x.status(8), after(after(seed)));
        x.seed(seedFor(10, 9));
        DUE.is("not caught", x.winter(1), 1);
    }

    /** SECONDS go on within a day. */
    private static void noSecondsForAPull() {
        int[][] takes = {{60, 1}, {31, 1}, {30, 2}, {21, 2}, {20, 3}};
        for (int[] t : takes) {
            TheLiningsInIt x = at(0, 0, 0, t[0]);
            x.ask(1, 300);
            x.ask(2, 9);
            x.ask(3, 1);
            x.slack(0, 9);
            // Caught, and then no draw that frees: DEPTH goes on by 1 a PULL.
            int seed = stuckSeed(t[1]);
            x.seed(seed);
            DUE.is("takes " + t[0], x.winter(1), 0);
            DUE.is("SECONDS left of 60", x.status(5), 60 - t[0] * t[1]);
            DUE.is("deeper by each", x.status(3), 1 + drawn(after(seed), 6) + t[1]);
        }
    }

    /** A seed by which it's caught and then so many PULLS don't free it, as 3 of 12 at most would. */
    private static int stuckSeed(int pulls) {
        for (int seed = 0; seed < 1000000; seed++) {
            int s = after(seed);
            boolean good = drawn(seed, 10) < 9;
            for (int i = 0; i < pulls && good; i++) {
                s = after(s);
                good = drawn(s, 12) >= 3;
            }
            if (good) {
                return seed;
            }
        }
        return 0;
    }

    /** That PULL (12 at most): with SECONDS for more. */
    private static void twelvePullsAtMost() {
        TheLiningsInIt x = at(0, 0, 0, 1);
        x.ask(2, 9);
        x.ask(3, 1);
        x.slack(0, 9);
        int seed = stuckSeed(13);
        x.seed(seed);
        DUE.is("caught for all 12", x.winter(1), 0);
        DUE.is("SECONDS", x.status(5), 48);
        DUE.is("DEPTH", x.status(3), 1 + drawn(after(seed), 6) + 12);
        int s = after(after(seed));
        for (int i = 0; i < 12; i++) {
            s = after(s);
        }
        DUE.is("SEED behind 14 DRAWS", x.status(8), s);
    }

    /** If DEPTH is 0 then, all this once more, 3 CLOSINGS at most. */
    private static void threeClosingsAtMost() {
        int thirdCatches = 0;
        int thirdCloses = 0;
        for (int seed = 0; seed < 300; seed++) {
            TheLiningsInIt x = at(0, 5, 0, 1);
            x.ask(3, 1);
            x.slack(19, 9);
            x.seed(seed);
            int s = seed;
            int closings = 0;
            int tears = 0;
            boolean top = false;
            while (closings < 3 && !top) {
                closings++;
                top = drawn(s, 10) >= 9;
                s = after(s);
                if (!top) {
                    int depth = 1 + drawn(s, 6);
                    s = after(s);
                    for (int d = depth; d > 0; d -= 4) {
                        s = after(s);
                        tears++;
                    }
                }
            }
            DUE.is("winter(1) by " + seed, x.winter(1), top ? 1 : 0);
            DUE.is("AT", x.status(2), top ? 20 : 19);
            DUE.is("DEPTH", x.status(3), 0);
            DUE.is("TORN", x.status(4), tears);
            DUE.is("SECONDS", x.status(5), 60 - tears);
            DUE.is("SEED", x.status(8), s);
            thirdCatches += closings == 3 && !top ? 1 : 0;
            thirdCloses += closings == 3 && top ? 1 : 0;
        }
        DUE.is("caught at the third, now and then", thirdCatches > 0 ? 1 : 0, 1);
        DUE.is("at the top by the third, now and then", thirdCloses > 0 ? 1 : 0, 1);
    }

    /** That PULL: NEXT of 2, with TEARS, by the HURRY there is. */
    private static void daysByTheBetterPull() {
        TheLiningsInIt x = at(0, 0, 0, 1, 5, 0, 2);
        x.ask(3, 1);
        x.slack(0, 9);
        int seed = 0;
        while (drawn(seed, 10) >= 9 || drawn(after(seed), 6) != 5) {
            seed++;
        }
        x.seed(seed);
        x.winter(1);
        DUE.is("6 deep a TEAR comes first", x.status(4) > 0 ? 1 : 0, 1);
    }
}
