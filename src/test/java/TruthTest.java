import java.util.Random;

/** Promises 30 to 32 and 34: pulls, closings and winters in truth, by draws. */
public final class TruthTest {
    private static final Due DUE = new Due("TruthTest");

    private static int seed;

    public static void main(String[] args) {
        draws();
        refused();
        nothingInTheWay();
        stopsWhereThreeLack();
        Random random = new Random(9);
        for (int round = 0; round < 400; round++) {
            anyPulls(random);
            anyClosing(random);
        }
        for (int round = 0; round < 300; round++) {
            anyWinter(random);
        }
        DUE.end();
    }

    private static int draw(int n) {
        seed = seed * 1103515245 + 12345;
        return (int) ((seed & 0xffffffffL) >> 16) % n;
    }

    private static void draws() {
        TheLiningsInIt x = new TheLiningsInIt();
        x.pull(5, 0, 1);
        x.ask(0, 9);
        DUE.is("a TEAR", x.pulls(0), 5);
        DUE.is("it draws, too", x.status(8), 1103527590);
        DUE.is("TORN", x.status(4), 1);
        DUE.is("SECONDS", x.status(5), 59);
        DUE.is("the next", x.pulls(0), 1);
        DUE.is("the last", x.pulls(0), 0);
        DUE.is("no more", x.pulls(0), -6);
        DUE.is("TORN", x.status(4), 3);
        DUE.is("SECONDS", x.status(5), 57);
        x.pull(0, 0, 58);
        x.ask(0, 1);
        DUE.is("too late", x.pulls(1), -6);
    }

    private static void refused() {
        TheLiningsInIt x = new TheLiningsInIt();
        DUE.is("pulls(0)", x.pulls(0), -1);
        DUE.is("pulls(-1)", x.pulls(-1), -1);
        x.pull(0, 0, 9);
        DUE.is("pulls(0) at DEPTH 0", x.pulls(0), -6);
        DUE.is("pulls(1) at DEPTH 0", x.pulls(1), -1);
        x.ask(0, 1);
        x.ask(1, 8);
        DUE.is("pulls(0) too late", x.pulls(0), -6);
        DUE.is("close()", x.close(), -6);
        DUE.is("winter(0)", x.winter(0), -6);
        DUE.is("winter(61)", x.winter(61), -6);
        DUE.is("winter(-1)", x.winter(-1), -6);
        DUE.is("no draw", x.status(8), 1);
        DUE.is("DEPTH", x.status(3), 1);
    }

    private static void nothingInTheWay() {
        TheLiningsInIt x = new TheLiningsInIt();
        x.slack(4, 2);
        x.lack(9, true);
        x.lack(10, true);
        x.lack(12, true);
        DUE.is("close()", x.close(), 20);
        DUE.is("close() at the top", x.close(), 20);
        x.ask(0, 5);
        x.ask(1, 3);
        DUE.is("winter(60)", x.winter(60), 60);
        DUE.is("no draw", x.status(8), 1);
        DUE.is("AT", x.status(2), 20);
        DUE.is("DEPTH", x.status(3), 0);
        DUE.is("SECONDS", x.status(5), 60);
    }

    private static void stopsWhereThreeLack() {
        TheLiningsInIt x = new TheLiningsInIt();
        x.pull(5, 0, 1);
        for (int tooth = 6; tooth <= 8; tooth++) {
            x.lack(tooth, true);
        }
        DUE.is("close()", x.close(), 6);
        DUE.is("close() again", x.close(), 6);
        DUE.is("winter(3)", x.winter(3), 0);
        DUE.is("no draw", x.status(8), 1);
        DUE.is("AT", x.status(2), 6);
        x.ask(7, 7);
        DUE.is("close() past it", x.close(), 20);
        x.lack(4, true);
        x.slack(7, 9);
        x.lack(5, true);
        DUE.is("winter(1)", x.winter(1), 0);
        DUE.is("AT", x.status(2), 4);
    }

    private static void anyPulls(Random random) {
        TheLiningsInIt x = new TheLiningsInIt();
        Pulling[] pulls = new Pulling[7];
        for (int p = 0; p < 7; p++) {
            pulls[p] = new Pulling(p, random.nextInt(10), 1 + random.nextInt(30));
            x.pull(p, pulls[p].a, pulls[p].takes);
        }
        int hurry = random.nextInt(10);
        int d = random.nextInt(25);
        int seconds = 300;
        int torn = 0;
        seed = random.nextInt();
        x.ask(0, d);
        x.ask(1, seconds);
        x.ask(2, hurry);
        x.seed(seed);
        for (int i = 0; i < 40; i++) {
            int p = random.nextInt(7);
            int due = -6;
            if (pulls[p].may(d, seconds)) {
                d = draw(12) < pulls[p].ways(d, hurry) ? pulls[p].freed(d) : pulls[p].stuck(d, hurry);
                seconds -= pulls[p].takes;
                torn += p == 5 ? 1 : 0;
                due = d;
            }
            DUE.is("pulls(" + p + ")", x.pulls(p), due);
        }
        DUE.is("DEPTH", x.status(3), d);
        DUE.is("TORN", x.status(4), torn);
        DUE.is("SECONDS", x.status(5), seconds);
        DUE.is("SEED", x.status(8), seed);
    }

    private static void anyClosing(Random random) {
        TheLiningsInIt x = new TheLiningsInIt();
        int n = 4 + random.nextInt(20);
        int gap = 1 + random.nextInt(9);
        int[] slack = new int[n + 3];
        boolean[] lacking = new boolean[n + 3];
        x.teeth(n);
        x.ask(3, gap);
        for (int tooth = 0; tooth < n; tooth++) {
            slack[tooth] = random.nextInt(10);
            lacking[tooth] = random.nextInt(3) == 0;
            x.slack(tooth, slack[tooth]);
            x.lack(tooth, lacking[tooth]);
        }
        int at = random.nextInt(n + 1);
        x.ask(7, at);
        seed = random.nextInt();
        x.seed(seed);
        int depth = 0;
        while (at < n && depth == 0) {
            if (!lacking[at] && slack[at] >= gap && draw(10) < slack[at] - gap + 1) {
                depth = 1 + draw(6);
            } else if (lacking[at] && lacking[at + 1] && lacking[at + 2]) {
                break;
            } else {
                at++;
            }
        }
        DUE.is("close()", x.close(), at);
        DUE.is("AT", x.status(2), at);
        DUE.is("DEPTH", x.status(3), depth);
        DUE.is("SEED", x.status(8), seed);
        DUE.is("SECONDS", x.status(5), 60);
    }

    private static TheLiningsInIt jacketForWinter(int rounds) {
        Random random = new Random(rounds);
        TheLiningsInIt x = new TheLiningsInIt();
        x.teeth(4 + random.nextInt(12));
        for (int p = random.nextInt(4); p > 0; p--) {
            x.pull(random.nextInt(7), random.nextInt(10), 1 + random.nextInt(random.nextBoolean() ? 60 : 4));
        }
        x.ask(2, random.nextInt(10));
        x.ask(3, 1 + random.nextInt(5));
        for (int i = 0; i < 6; i++) {
            x.slack(random.nextInt(8), random.nextInt(10));
            x.lack(random.nextInt(8), true);
        }
        x.ask(0, random.nextInt(25));
        x.ask(1, random.nextInt(100));
        x.seed(random.nextInt());
        return x;
    }

    /** A winter beside its days, made by the calls that the document makes it of. */
    private static void anyWinter(Random random) {
        int jacket = random.nextInt();
        int days = 1 + random.nextInt(2);
        TheLiningsInIt x = jacketForWinter(jacket);
        TheLiningsInIt y = jacketForWinter(jacket);
        int came = 0;
        for (int day = 0; day < days; day++) {
            y.ask(7, 0);
            y.ask(0, 0);
            y.ask(1, 60);
            came += day(y);
        }
        DUE.is("winter(" + days + ")", x.winter(days), came);
        for (int what = 0; what < 9; what++) {
            DUE.is("status(" + what + ")", x.status(what), y.status(what));
        }
    }

    private static int day(TheLiningsInIt y) {
        for (int closing = 0; closing < 3; closing++) {
            if (y.close() == y.status(1)) {
                return 1;
            }
            for (int i = 0; i < 12 && y.status(3) != 0 && y.cases(2, 1) != -1; i++) {
                y.pulls(y.cases(2, 1));
            }
            if (y.status(3) != 0) {
                return 0;
            }
        }
        return 0;
    }
}
