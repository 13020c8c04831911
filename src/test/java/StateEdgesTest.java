/** Promises 14 and 35 to 39, MOVES and what there is at first: each edge that a sentence names. */
public final class StateEdgesTest {
    private static final Due DUE = new Due("StateEdgesTest");
    private static final int MIN = Integer.MIN_VALUE;
    private static final int MAX = Integer.MAX_VALUE;

    public static void main(String[] args) {
        whatThereIsAtFirst();
        askFromTheLeastToTheMost();
        askTellsWhatWas();
        movesByHand();
        movesWrap();
        movesOfTheLastPull();
        noSuchMove();
        traceInOrder();
        traceIsOfTheLatest();
        twentyAreKept();
        imageOfNothing();
        imageOfFullPulls();
        restoreTakesPullsAway();
        restoreBringsPullsBack();
        imageLeavesShelves();
        imageIsTakenAnew();
        imageKeepsTheSeed();
        statusOfAnother();
        statusCountsEachRefusal();
        DUE.end();
    }

    /** Terms: what is "at first". */
    private static void whatThereIsAtFirst() {
        TheLiningsInIt x = new TheLiningsInIt();
        int[] due = {0, 20, 0, 0, 0, 60, 0, 3, 1, 0, -1, 0, 0, 0, 0, 0, 0, 0, -1};
        for (int what = 0; what < due.length; what++) {
            DUE.is("status(" + what + ")", x.status(what), due[what]);
        }
        int[] costs = {5, 10, 50};
        for (int cost = 0; cost < 3; cost++) {
            DUE.is("COST " + cost, x.ask(4 + cost, 0), costs[cost]);
        }
    }

    /** Promise 14. */
    private static void askFromTheLeastToTheMost() {
        int[] least = {0, 0, 0, 1, 0, 0, 0, 0};
        int[] most = {24, 300, 9, 9, 99, 99, 99, 20};
        for (int what = 0; what < 8; what++) {
            TheLiningsInIt x = new TheLiningsInIt();
            DUE.is("the least of " + what, x.ask(what, least[what]) >= 0 ? 1 : 0, 1);
            DUE.is("less of " + what, x.ask(what, least[what] - 1), -6);
            DUE.is("the most of " + what, x.ask(what, most[what]), least[what]);
            DUE.is("more of " + what, x.ask(what, most[what] + 1), -6);
            DUE.is("MIN of " + what, x.ask(what, MIN), -6);
            DUE.is("MAX of " + what, x.ask(what, MAX), -6);
            DUE.is("the most of " + what + " stays", x.ask(what, least[what]), most[what]);
        }
        TheLiningsInIt x = new TheLiningsInIt();
        DUE.is("what -1", x.ask(-1, 1), -6);
        DUE.is("what 8", x.ask(8, 1), -6);
    }

    private static void askTellsWhatWas() {
        TheLiningsInIt x = new TheLiningsInIt();
        for (int what = 0; what < 8; what++) {
            x.ask(what, what + 1);
        }
        for (int what = 0; what < 8; what++) {
            DUE.is("ask(" + what + ", 1)", x.ask(what, 1), what + 1);
        }
    }

    private static TheLiningsInIt with(int kind, int a, int ahead) {
        TheLiningsInIt x = new TheLiningsInIt();
        for (int p = 0; p < ahead; p++) {
            x.pull(0, 0, 1);
        }
        x.pull(kind, a, 1);
        return x;
    }

    /** Each MOVE of each KIND with number 2, a of 3 and x of 10. */
    private static void movesByHand() {
        int[][] due = {
            {12, 24, 24 ^ 9},
            {15, 30, 30 ^ 12},
            {12, 72, 72 ^ 9},
            {15, 32, 32 ^ 12},
            {10, 20, -(20 ^ 7)},
            {12, 72, 72 ^ 9 ^ 5},
            {20, 28, -(28 ^ 14)},
        };
        for (int kind = 0; kind < 7; kind++) {
            TheLiningsInIt x = with(kind, 3, 2);
            for (int move = 0; move < 3; move++) {
                DUE.is("kind " + kind + " move " + move, x.act(2, move, 10), due[kind][move]);
            }
        }
    }

    /** With x (wrapping). */
    private static void movesWrap() {
        TheLiningsInIt plain = with(0, 9, 7);
        DUE.is("MAX and 7", plain.act(7, 0, MAX), MIN + 6);
        DUE.is("twice that", plain.act(7, 1, MAX), 12);
        DUE.is("twice MIN and 7", plain.act(7, 1, MIN), 14);
        DUE.is("rests of MIN", plain.act(7, 2, MIN), 14 ^ MAX - 1);
        TheLiningsInIt hard = with(2, 0, 0);
        DUE.is("three times twice a lot", hard.act(0, 1, 1 << 30), MIN);
        DUE.is("three times twice MAX", hard.act(0, 1, MAX), -6);
        TheLiningsInIt slant = with(4, 0, 0);
        DUE.is("less than MIN", slant.act(0, 2, MIN), MIN);
        TheLiningsInIt helped = with(6, 9, 0);
        DUE.is("MIN less 9, four times", helped.act(0, 1, MIN), -36);
        TheLiningsInIt smeared = with(3, 9, 0);
        DUE.is("MAX and 1", smeared.act(0, 1, MAX), 18);
    }

    private static void movesOfTheLastPull() {
        TheLiningsInIt x = with(0, 0, 7);
        for (int p = 0; p < 8; p++) {
            DUE.is("m is " + p, x.act(p, 0, 0), p);
        }
        DUE.is("none such", x.act(8, 0, 5), 0);
        DUE.is("no TRACE", x.trace(0), -1);
    }

    /** 0, and no TRACE then: no such PULL, move. */
    private static void noSuchMove() {
        TheLiningsInIt x = with(6, 9, 0);
        int[][] none = {{1, 0}, {-1, 0}, {0, 3}, {0, -1}, {MAX, 0}, {0, MIN}, {1, 3}};
        for (int[] n : none) {
            x.act(0, 2, 5);
            DUE.is("act(" + n[0] + ", " + n[1] + ", 5)", x.act(n[0], n[1], 5), 0);
            DUE.is("no bodies", x.status(9), 0);
            for (int i = 0; i < 12; i++) {
                DUE.is("trace(" + i + ")", x.trace(i), -1);
            }
        }
        for (int no = 11; no <= 17; no++) {
            DUE.is("nothing is refused", x.status(no), 0);
        }
        TheLiningsInIt y = new TheLiningsInIt();
        DUE.is("act() of a new object", y.act(0, 0, 5), 0);
        DUE.is("trace(0) of a new object", y.trace(0), -1);
    }

    /** In the order in which they began. */
    private static void traceInOrder() {
        String[][] due = {
            {"10", "11 10", "12 11 10 10"},
            {"20 10", "11 20 10", "12 11 20 10 20 10"},
            {"10", "30 11 10", "12 30 11 10 10"},
            {"20 10", "40 11 20 10", "12 40 11 20 10 20 10"},
            {"51 10", "11 51 10", "50 12 11 51 10 51 10"},
            {"10", "30 11 10", "60 12 30 11 10 10"},
            {"70 51 10", "71 11 70 51 10", "50 12 71 11 70 51 10 70 51 10"},
        };
        for (int kind = 0; kind < 7; kind++) {
            TheLiningsInIt x = with(kind, 3, 0);
            for (int move = 0; move < 3; move++) {
                x.act(0, move, 7);
                String[] bodies = due[kind][move].split(" ");
                DUE.is("how many", x.status(9), bodies.length);
                for (int i = 0; i < bodies.length; i++) {
                    DUE.is("kind " + kind + " move " + move + " body " + i, x.trace(i), Integer.parseInt(bodies[i]));
                }
                DUE.is("behind the last", x.trace(bodies.length), -1);
                DUE.is("below the first", x.trace(-1), -1);
            }
        }
    }

    private static void traceIsOfTheLatest() {
        TheLiningsInIt x = with(6, 3, 0);
        x.act(0, 2, 1);
        x.act(0, 0, 1);
        DUE.is("how many", x.status(9), 3);
        DUE.is("the last", x.trace(2), 10);
        DUE.is("none of the longer one", x.trace(3), -1);
        x.frees(0, 1, 0);
        x.ask(0, 3);
        x.pulls(0);
        DUE.is("other calls leave it", x.status(9), 3);
    }

    /** The first 20 are kept: no KIND's move has so many, and behind them there is none. */
    private static void twentyAreKept() {
        TheLiningsInIt x = with(6, 3, 0);
        x.act(0, 2, 1);
        DUE.is("the longest", x.status(9), 10);
        DUE.is("its last", x.trace(9), 10);
        int[] none = {10, 19, 20, 21, MAX, MIN, -1};
        for (int i : none) {
            DUE.is("trace(" + i + ")", x.trace(i), -1);
        }
    }

    /** Promises 37 and 38. */
    private static void imageOfNothing() {
        TheLiningsInIt x = new TheLiningsInIt();
        DUE.is("restore() ahead of an image", x.restore(), -6);
        DUE.is("image()", x.image(), 0);
        x.pull(0, 0, 1);
        x.teeth(4);
        DUE.is("restore()", x.restore(), 0);
        DUE.is("TEETH", x.status(1), 20);
        DUE.is("PULLS", x.status(0), 0);
        DUE.is("restore() once more", x.restore(), 0);
        DUE.is("REFUSALS stay", x.status(16), 1);
    }

    private static void imageOfFullPulls() {
        TheLiningsInIt x = with(6, 9, 7);
        DUE.is("image()", x.image(), 8);
        DUE.is("a ninth", x.pull(0, 0, 1), -7);
        DUE.is("restore()", x.restore(), 8);
        DUE.is("a ninth still", x.pull(0, 0, 1), -7);
        DUE.is("the last one", x.pullOf(7, 0), 6);
    }

    /** SHELVES with PULLS hold those of these numbers, or NOTHING. */
    private static void restoreTakesPullsAway() {
        TheLiningsInIt x = with(1, 0, 0);
        x.image();
        for (int p = 1; p < 8; p++) {
            x.pull(2, p, 1);
        }
        for (int s = 0; s < 8; s++) {
            x.show(s, s);
        }
        DUE.is("restore()", x.restore(), 1);
        for (int s = 0; s < 8; s++) {
            DUE.is("holds(" + s + ")", x.holds(s), s == 0 ? 0 : -1);
        }
        DUE.is("none is left", x.pullOf(1, 0), -5);
        DUE.is("a new one has the number", x.pull(4, 3, 2), 1);
        DUE.is("no SHELF holds it", x.holds(1), -1);
        DUE.is("its KIND", x.pullOf(1, 0), 4);
    }

    private static void restoreBringsPullsBack() {
        TheLiningsInIt x = new TheLiningsInIt();
        x.image();
        x.pull(1, 2, 3);
        x.show(0, 0);
        x.restore();
        x.pull(5, 6, 7);
        x.show(0, 0);
        DUE.is("image()", x.image(), 1);
        x.restore();
        DUE.is("KIND", x.pullOf(0, 0), 5);
        DUE.is("a", x.pullOf(0, 1), 6);
        DUE.is("TAKES", x.pullOf(0, 2), 7);
        DUE.is("holds(0)", x.holds(0), 0);
        DUE.is("says(0, 0)", x.says(0, 0), 7);
    }

    private static void imageLeavesShelves() {
        TheLiningsInIt x = with(0, 0, 0);
        x.row(0, 3, 2);
        x.show(1, 0);
        x.image();
        x.set(0, 0, 9);
        x.show(1, -1);
        x.row(2, 0, 1);
        x.show(3, 0);
        x.restore();
        DUE.is("an element put in since", x.element(0, 0), 9);
        DUE.is("a SHELF emptied since", x.holds(1), -1);
        DUE.is("a ROW made since", x.holds(2), 100);
        DUE.is("a PULL shown since", x.holds(3), 0);
    }

    private static void imageIsTakenAnew() {
        TheLiningsInIt x = new TheLiningsInIt();
        x.ask(0, 5);
        x.image();
        x.ask(0, 6);
        x.restore();
        DUE.is("DEPTH", x.status(3), 5);
        x.ask(0, 7);
        x.image();
        x.ask(0, 8);
        x.restore();
        DUE.is("DEPTH of the later one", x.status(3), 7);
        x.ask(0, 9);
        x.restore();
        DUE.is("which stays", x.status(3), 7);
    }

    private static void imageKeepsTheSeed() {
        TheLiningsInIt x = with(5, 0, 0);
        x.ask(0, 24);
        x.seed(-77);
        x.pulls(0);
        int seed = x.status(8);
        x.image();
        x.pulls(0);
        x.pulls(0);
        x.restore();
        DUE.is("SEED", x.status(8), seed);
        DUE.is("TORN", x.status(4), 1);
        DUE.is("SECONDS", x.status(5), 59);
        DUE.is("DEPTH", x.status(3), 20);
    }

    /** Promise 39: NONE for another what. */
    private static void statusOfAnother() {
        TheLiningsInIt x = new TheLiningsInIt();
        int[] none = {-1, 10, 18, 19, 100, MIN, MAX};
        for (int what : none) {
            DUE.is("status(" + what + ")", x.status(what), -1);
        }
        for (int no = 11; no <= 17; no++) {
            DUE.is("nothing is refused", x.status(no), 0);
        }
    }

    /** 11 to 17: REFUSALS -1 to -7, those of -11 to -16 counted as -1 to -6. */
    private static void statusCountsEachRefusal() {
        TheLiningsInIt x = with(0, 0, 7);
        x.show(0, 0);
        x.row(1, 0, 2);
        for (int round = 1; round <= 3; round++) {
            x.row(9, 0, 0);
            x.best(9);
            x.best(0);
            x.judge(7, 0);
            x.judge(1, -1);
            x.best(1);
            x.cases(9, 9);
            x.line(9, 0);
            x.pull(0, 0, 1);
            int[] due = {2, 1, 1, 1, 2, 1, 1};
            for (int no = 0; no < 7; no++) {
                DUE.is("status(" + (11 + no) + ")", x.status(11 + no), due[no] * round);
            }
        }
    }
}
