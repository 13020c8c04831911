import java.util.Random;

/** Promises 27 and 28: told pulls judged, and which pulls it was. */
public final class ToldTest {
    private static final Due DUE = new Due("ToldTest");

    public static void main(String[] args) {
        judged();
        judgingRefused();
        meant();
        meantByNone();
        meantMany();
        meaningRefused();
        Random random = new Random(6);
        for (int round = 0; round < 600; round++) {
            anyTale(random);
        }
        DUE.end();
    }

    private static void judged() {
        TheLiningsInIt x = new TheLiningsInIt();
        x.pull(1, 0, 10);
        x.pull(0, 0, 10);
        x.ask(0, 2);
        Due.ints(x, 0, 0, 0, 0, 1, 9);
        DUE.is("none told", x.judge(0, 0), -1);
        DUE.is("two that free", x.judge(0, 2), -1);
        DUE.is("no more to pull at", x.judge(0, 3), 2);
        x.ask(0, 4);
        Due.ints(x, 1, 1, 1, 1, 1, 1, 1, 1);
        DUE.is("5 of 12 never free", x.judge(1, 6), -1);
        DUE.is("no more seconds", x.judge(1, 7), 6);
        Due.ints(x, 2, 0, 2, 0);
        DUE.is("none such", x.judge(2, 3), 1);
        Due.ints(x, 3, 0, 1, -1, 5);
        DUE.is("none below 0", x.judge(3, 4), 2);
        x.row(4, 3, 2);
        x.set(4, 0, (1L << 32) + 1);
        DUE.is("longs by their lowest bits", x.judge(4, 2), -1);
        x.ask(2, 6);
        x.ask(0, 24);
        DUE.is("no deeper than there is", x.judge(0, 4), -1);
        DUE.is("the last is none", x.judge(0, 5), 4);
        DUE.is("DEPTH is as it was", x.status(3), 24);
        DUE.is("SECONDS are as they were", x.status(5), 60);
        x.ask(2, 0);
        x.ask(0, 3);
        DUE.is("6 of 12 is enough", x.judge(1, 4), 3);
    }

    private static void judgingRefused() {
        TheLiningsInIt x = new TheLiningsInIt();
        x.pull(0, 0, 1);
        x.show(1, 0);
        x.row(0, 2, 30);
        DUE.is("judge(8, -1)", x.judge(8, -1), -11);
        DUE.is("judge(1, -1)", x.judge(1, -1), -12);
        DUE.is("judge(2, -1)", x.judge(2, -1), -13);
        DUE.is("judge(0, -1)", x.judge(0, -1), -14);
        DUE.is("judge(0, 31)", x.judge(0, 31), -15);
        DUE.is("judge(0, 21)", x.judge(0, 21), -16);
        DUE.is("judge(0, 20)", x.judge(0, 20), 0);
        DUE.is("status(15)", x.status(15), 1);
    }

    private static void meant() {
        TheLiningsInIt x = new TheLiningsInIt();
        x.pull(0, 0, 60);
        x.pull(4, 0, 60);
        x.pull(1, 0, 60);
        x.pull(5, 0, 60);
        x.ask(0, 6);
        x.ask(1, 0);
        Due.ints(x, 0, 5, 3, 3, 0);
        DUE.is("2 * 1 * 3 * 1", x.meant(0, 4, -1), 6);
        int[] first = {0, 1, 0, 3};
        for (int i = 0; i < 4; i++) {
            DUE.is("the first that made " + i, x.meant(0, 4, i), first[i]);
        }
        DUE.is("the last of less", x.meant(0, 1, 0), 0);
        DUE.is("no such i of less", x.meant(0, 1, 1), -5);
        Due.ints(x, 1, 5, 6);
        DUE.is("none without HURRY", x.meant(1, 2, -1), 0);
        DUE.is("none made it", x.meant(1, 2, 1), -5);
        DUE.is("none of a row that none made", x.meant(1, 2, 0), -5);
        DUE.is("the same without what none made", x.meant(1, 1, 0), 0);
        x.ask(2, 6);
        DUE.is("some by HURRY", x.meant(1, 2, -1), 6);
        Due.ints(x, 2, 6);
        DUE.is("a TEAR doesn't stay", x.meant(2, 1, -1), 0);
        x.ask(0, 0);
        Due.ints(x, 3, 0);
        DUE.is("nothing is pulled at DEPTH 0", x.meant(3, 1, -1), 0);
        x.ask(0, 24);
        Due.ints(x, 4, 23);
        DUE.is("of 0 of 12 is none, by HURRY 6", x.meant(4, 1, -1), 0);
    }

    private static void meantByNone() {
        TheLiningsInIt x = new TheLiningsInIt();
        x.pull(2, 0, 1);
        x.ask(0, 1);
        Due.ints(x, 3, 0, 0);
        DUE.is("no row ends with a PULL at DEPTH 0", x.meant(3, 2, -1), 0);
        DUE.is("so none made the first", x.meant(3, 2, 0), -5);
        DUE.is("nor the second", x.meant(3, 2, 1), -5);
        DUE.is("both refused as BEYOND", x.status(15), 2);
        DUE.is("the first alone", x.meant(3, 1, 0), 0);
        Due.ints(x, 4, 9, 7);
        x.ask(0, 3);
        DUE.is("none where the first can't be", x.meant(4, 2, -1), 0);
        DUE.is("no second behind it", x.meant(4, 2, 1), -5);
        x.ask(0, 9);
        Due.ints(x, 5, 7, 9, 0);
        DUE.is("none in the middle", x.meant(5, 3, 0), -5);
        DUE.is("none in the end", x.meant(5, 3, 2), -5);
        TheLiningsInIt y = new TheLiningsInIt();
        y.ask(0, 5);
        Due.ints(y, 0, 5);
        DUE.is("no PULLS: no rows", y.meant(0, 1, -1), 0);
        DUE.is("no PULLS: none", y.meant(0, 1, 0), -5);
    }

    private static void meantMany() {
        TheLiningsInIt x = new TheLiningsInIt();
        for (int p = 0; p < 8; p++) {
            x.pull(0, 0, 1);
        }
        x.ask(0, 3);
        int[] row = new int[20];
        java.util.Arrays.fill(row, 3);
        Due.ints(x, 0, row);
        int many = 1;
        for (int n = 1; n <= 20; n++) {
            many = Math.min(1000000, many * 8);
            DUE.is("by " + n, x.meant(0, n, -1), many);
        }
        x.set(0, 19, 9);
        DUE.is("none in the end", x.meant(0, 20, -1), 0);
        DUE.is("all but the last", x.meant(0, 19, -1), 1000000);
    }

    private static void meaningRefused() {
        TheLiningsInIt x = new TheLiningsInIt();
        x.pull(0, 0, 1);
        x.show(1, 0);
        x.ask(0, 3);
        x.row(0, 2, 30);
        x.set(0, 2, 25);
        DUE.is("meant(8, -1, 9)", x.meant(8, -1, 9), -1);
        DUE.is("meant(1, -1, 9)", x.meant(1, -1, 9), -2);
        DUE.is("meant(2, -1, 9)", x.meant(2, -1, 9), -3);
        DUE.is("meant(0, -1, 9)", x.meant(0, -1, 9), -4);
        DUE.is("meant(0, 31, 0)", x.meant(0, 31, 0), -5);
        DUE.is("meant(0, 0, 9)", x.meant(0, 0, 9), -6);
        DUE.is("meant(0, 21, 30)", x.meant(0, 21, 30), -6);
        DUE.is("meant(0, 2, 2)", x.meant(0, 2, 2), -5);
        DUE.is("meant(0, 2, -2)", x.meant(0, 2, -2), -5);
        DUE.is("no such i, of what is no DEPTH", x.meant(0, 3, 3), -5);
        DUE.is("no DEPTH", x.meant(0, 3, -1), -6);
        DUE.is("no DEPTH, of an i", x.meant(0, 3, 0), -6);
        DUE.is("what isn't looked at", x.meant(0, 2, -1), 0);
        x.set(0, 1, -1);
        DUE.is("no DEPTH below 0", x.meant(0, 2, -1), -6);
        x.set(0, 1, 0);
        x.set(0, 0, 25);
        DUE.is("no DEPTH at first", x.meant(0, 1, -1), -6);
    }

    private static void anyTale(Random random) {
        TheLiningsInIt x = new TheLiningsInIt();
        Pulling[] pulls = new Pulling[1 + random.nextInt(8)];
        for (int p = 0; p < pulls.length; p++) {
            pulls[p] = new Pulling(random.nextInt(7), random.nextInt(10), 1 + random.nextInt(9));
            x.pull(pulls[p].kind, pulls[p].a, pulls[p].takes);
        }
        int hurry = random.nextInt(10);
        int depth = random.nextInt(25);
        x.ask(0, depth);
        x.ask(2, hurry);
        int n = 1 + random.nextInt(6);
        int[] told = new int[n];
        int[] depths = new int[n];
        int d = depth;
        for (int i = 0; i < n; i++) {
            told[i] = random.nextInt(pulls.length + (random.nextInt(4) == 0 ? 1 : 0));
            Pulling one = pulls[random.nextInt(pulls.length)];
            d = random.nextInt(15) == 0 ? random.nextInt(25)
                    : random.nextInt(12) < one.ways(d, hurry) ? one.freed(d) : one.stuck(d, hurry);
            depths[i] = d;
        }
        Due.ints(x, 0, told);
        Due.ints(x, 1, depths);
        DUE.is("judge", x.judge(0, n), wrong(pulls, told, depth, hurry));
        long rows = 1;
        int from = depth;
        int[] first = new int[n];
        for (int i = 0; i < n; i++) {
            int count = 0;
            for (int p = pulls.length - 1; p >= 0; p--) {
                int ways = pulls[p].ways(from, hurry);
                boolean freed = ways != 0 && pulls[p].freed(from) == depths[i];
                boolean stuck = ways != 12 && pulls[p].stuck(from, hurry) == depths[i];
                if (from > 0 && (freed || stuck)) {
                    count++;
                    first[i] = p;
                }
            }
            rows *= count;
            from = depths[i];
        }
        for (int i = 0; i < n; i++) {
            DUE.is("the first that made it", x.meant(1, n, i), rows == 0 ? -5 : first[i]);
        }
        DUE.is("how many", x.meant(1, n, -1), Math.min(1000000, rows));
    }

    private static int wrong(Pulling[] pulls, int[] told, int depth, int hurry) {
        int d = depth;
        int seconds = 60;
        for (int i = 0; i < told.length; i++) {
            if (told[i] >= pulls.length || !pulls[told[i]].may(d, seconds)) {
                return i;
            }
            Pulling one = pulls[told[i]];
            d = one.ways(d, hurry) >= 6 ? one.freed(d) : one.stuck(d, hurry);
            seconds -= one.takes;
        }
        return -1;
    }
}
