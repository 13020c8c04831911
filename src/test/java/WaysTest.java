import java.util.Random;

/** Promises 18 to 20: cases, the line and haste, beside a search that tries everything. */
public final class WaysTest {
    private static final Due DUE = new Due("WaysTest");

    private static Pulling[] pulls;
    private static boolean tears;
    private static int[] costs;

    public static void main(String[] args) {
        byHand();
        atTheEdges();
        refused();
        narrow();
        Random random = new Random(3);
        for (int round = 0; round < 1500; round++) {
            anyJacket(random);
        }
        for (int round = 0; round < 12; round++) {
            dearest(random);
        }
        DUE.end();
    }

    private static void byHand() {
        TheLiningsInIt x = new TheLiningsInIt();
        x.pull(0, 0, 10);
        x.pull(5, 0, 10);
        x.ask(0, 1);
        DUE.is("one PULL, or a TEAR", x.cases(1, 0), 12);
        DUE.is("the TEAR", x.cases(1, 1), 1);
        DUE.is("WHOLE", x.cases(1, 2), 6);
        DUE.is("WHOLE of 2", x.cases(2, 2), 6 * 12 + 6 * 6);
        DUE.is("the first of two as good", x.cases(2, 1), 0);
        DUE.is("LINE of 1", x.line(1, 0), 60);
        DUE.is("its FIRST", x.line(1, 1), 0);
        DUE.is("LINE of 2", x.line(2, 0), 30 * 12);
        x.ask(4, 2);
        DUE.is("LINE of 1 by a cheap tear", x.line(1, 0), 24);
        DUE.is("its FIRST", x.line(1, 1), 1);
        x.ask(1, 9);
        DUE.is("none may be", x.cases(2, 0), 0);
        DUE.is("NEXT of none", x.cases(2, 1), -1);
        DUE.is("no time for the HEAD", x.line(2, 0), 50 * 144);
        DUE.is("MISSING", x.line(2, 1), 100);
        x.ask(1, 30);
        x.ask(4, 99);
        DUE.is("time for the HEAD, not for a pull and it", x.line(0, 1), 101);
        x.ask(0, 24);
        DUE.is("the HEAD", x.line(1, 1), 101);
        x.ask(1, 29);
        DUE.is("no more time", x.line(0, 0), 50);
        DUE.is("MISSING", x.line(0, 1), 100);
    }

    private static void atTheEdges() {
        TheLiningsInIt x = new TheLiningsInIt();
        int power = 1;
        for (int n = 0; n <= 4; n++) {
            DUE.is("CASES at depth 0", x.cases(n, 0), power);
            DUE.is("WHOLE at depth 0", x.cases(n, 2), power);
            DUE.is("NEXT at depth 0", x.cases(n, 1), -1);
            DUE.is("LINE at depth 0", x.line(n, 0), 0);
            DUE.is("FIRST at depth 0", x.line(n, 1), -1);
            power *= 12;
        }
        x.ask(0, 24);
        x.pull(3, 0, 1);
        x.pull(0, 0, 1);
        for (int n = 0; n <= 4; n++) {
            DUE.is("no CASES so deep", x.cases(n, 0), 0);
            DUE.is("NEXT all the same", x.cases(n, 1), n == 0 ? -1 : 0);
        }
        x.ask(5, 50);
        DUE.is("HEAD ahead of MISS", x.line(0, 1), 101);
        DUE.is("a pull ahead of HEAD", x.line(1, 1), 0);
        x.ask(5, 51);
        DUE.is("MISS as the cheaper one", x.line(0, 1), 100);
        x.ask(0, 1);
        x.ask(2, 9);
        x.ask(0, 20);
        DUE.is("a pull that can't free costs no more", x.line(1, 1), 0);
        DUE.is("nothing is changed", x.status(3), 20);
        DUE.is("nor the seconds", x.status(5), 60);
        DUE.is("nor the seed", x.status(8), 1);
    }

    private static void refused() {
        TheLiningsInIt x = new TheLiningsInIt();
        DUE.is("cases(9, 3)", x.cases(9, 3), -15);
        DUE.is("cases(0, -1)", x.cases(0, -1), -15);
        DUE.is("cases(-1, 0)", x.cases(-1, 0), -16);
        DUE.is("cases(5, 2)", x.cases(5, 2), -16);
        DUE.is("line(9, 2)", x.line(9, 2), -15);
        DUE.is("line(0, -1)", x.line(0, -1), -15);
        DUE.is("line(-1, 1)", x.line(-1, 1), -16);
        DUE.is("line(5, 0)", x.line(5, 0), -16);
        DUE.is("haste(9, 2)", x.haste(9, 2), -5);
        DUE.is("haste(0, -1)", x.haste(0, -1), -5);
        DUE.is("haste(-1, 0)", x.haste(-1, 0), -6);
        DUE.is("haste(5, 1)", x.haste(5, 1), -6);
        DUE.is("status(15)", x.status(15), 6);
        DUE.is("status(16)", x.status(16), 6);
    }

    private static void anyJacket(Random random) {
        int count = random.nextInt(5);
        int longest = random.nextBoolean() ? 60 : 6;
        Pulling[] some = new Pulling[count];
        for (int p = 0; p < count; p++) {
            some[p] = new Pulling(random.nextInt(7), random.nextInt(10), 1 + random.nextInt(longest));
        }
        compare(random, some, random.nextInt(4));
    }

    /** As many pulls as there may be, looked ahead as far as may be. */
    private static void dearest(Random random) {
        Pulling[] some = new Pulling[8];
        for (int p = 0; p < 8; p++) {
            some[p] = new Pulling(random.nextInt(7), random.nextInt(10), p == 7 ? 60 : 1 + random.nextInt(20));
        }
        compare(random, some, 4);
    }

    private static void compare(Random random, Pulling[] some, int n) {
        costs = new int[] {random.nextInt(20), random.nextInt(60), random.nextInt(60)};
        int d = random.nextInt(random.nextBoolean() ? 6 : 25);
        int seconds = random.nextInt(random.nextBoolean() ? 40 : 301);
        compareAt(some, n, d, seconds, random.nextInt(10));
    }

    /** Where but one of 12 frees, and where seconds are just enough or just too few. */
    private static void narrow() {
        costs = new int[] {5, 60, 50};
        for (int seconds = 23; seconds <= 25; seconds++) {
            for (int d = 1; d <= 24; d++) {
                compareAt(new Pulling[] {new Pulling(2, 0, 6)}, 4, d, seconds, 9);
                compareAt(new Pulling[] {new Pulling(2, 9, 6), new Pulling(5, 0, 7)}, 4, d, seconds + 30, 9);
                compareAt(new Pulling[] {new Pulling(6, 9, 6), new Pulling(4, 0, 5)}, 4, d, seconds, 0);
            }
        }
    }

    private static void compareAt(Pulling[] some, int n, int d, int seconds, int hurry) {
        TheLiningsInIt x = new TheLiningsInIt();
        pulls = some;
        for (Pulling p : pulls) {
            x.pull(p.kind, p.a, p.takes);
        }
        x.ask(0, d);
        x.ask(1, seconds);
        x.ask(2, hurry);
        for (int i = 0; i < 3; i++) {
            x.ask(4 + i, costs[i]);
        }
        String what = " of " + n + " at depth " + d;
        tears = true;
        DUE.is("CASES" + what, x.cases(n, 0), most(n, d, seconds, hurry));
        DUE.is("NEXT" + what, x.cases(n, 1), next(n, d, seconds, hurry));
        DUE.is("LINE" + what, x.line(n, 0), least(n, d, seconds, hurry));
        DUE.is("FIRST" + what, x.line(n, 1), first(n, d, seconds, hurry));
        if (n < 4) {
            haste(x, n, d, seconds);
        }
        tears = false;
        DUE.is("WHOLE" + what, x.cases(n, 2), most(n, d, seconds, hurry));
    }

    private static void haste(TheLiningsInIt x, int n, int d, int seconds) {
        int best = 0;
        for (int hurry = 1; hurry <= 9; hurry++) {
            if (most(n, d, seconds, hurry) > most(n, d, seconds, best)) {
                best = hurry;
            }
        }
        DUE.is("HASTE", x.haste(n, 0), best);
        boolean worse = most(n, d, seconds, 9) < most(n, d, seconds, 0);
        DUE.is("WORSE", x.haste(n, 1), worse ? 1 : 0);
    }

    private static int power(int n) {
        return n == 0 ? 1 : 12 * power(n - 1);
    }

    /** With not pulling among what is tried, as the document tells it. */
    private static int most(int n, int d, int seconds, int hurry) {
        if (d == 0) {
            return power(n);
        }
        if (n == 0) {
            return 0;
        }
        int most = 12 * most(n - 1, d, seconds, hurry);
        for (Pulling p : pulls) {
            if (p.may(d, seconds) && (tears || p.kind != 5)) {
                most = Math.max(most, mostBy(p, n, d, seconds, hurry));
            }
        }
        return most;
    }

    private static int mostBy(Pulling p, int n, int d, int seconds, int hurry) {
        int ways = p.ways(d, hurry);
        return ways * most(n - 1, p.freed(d), seconds - p.takes, hurry)
                + (12 - ways) * most(n - 1, p.stuck(d, hurry), seconds - p.takes, hurry);
    }

    private static int next(int n, int d, int seconds, int hurry) {
        int next = -1;
        int most = -1;
        for (int p = 0; p < pulls.length && n > 0 && d > 0; p++) {
            if (pulls[p].may(d, seconds) && mostBy(pulls[p], n, d, seconds, hurry) > most) {
                most = mostBy(pulls[p], n, d, seconds, hurry);
                next = p;
            }
        }
        return next;
    }

    private static int least(int n, int d, int seconds, int hurry) {
        if (d == 0) {
            return 0;
        }
        int least = power(n) * costs[2];
        if (seconds >= 30) {
            least = Math.min(least, power(n) * costs[1]);
        }
        for (Pulling p : pulls) {
            if (n > 0 && p.may(d, seconds)) {
                least = Math.min(least, leastBy(p, n, d, seconds, hurry));
            }
        }
        return least;
    }

    private static int leastBy(Pulling p, int n, int d, int seconds, int hurry) {
        int ways = p.ways(d, hurry);
        return (p.kind == 5 ? power(n) * costs[0] : 0)
                + ways * least(n - 1, p.freed(d), seconds - p.takes, hurry)
                + (12 - ways) * least(n - 1, p.stuck(d, hurry), seconds - p.takes, hurry);
    }

    private static int first(int n, int d, int seconds, int hurry) {
        int least = least(n, d, seconds, hurry);
        for (int p = 0; p < pulls.length && n > 0 && d > 0; p++) {
            if (pulls[p].may(d, seconds) && leastBy(pulls[p], n, d, seconds, hurry) == least) {
                return p;
            }
        }
        return d == 0 ? -1 : seconds >= 30 && power(n) * costs[1] == least ? 101 : 100;
    }
}
