import java.util.Random;

/** Promises 11 to 13, 24 to 26, 29 and 33: teeth, slack, what holds, catches and is stitched. */
public final class ZipTest {
    private static final Due DUE = new Due("ZipTest");

    public static void main(String[] args) {
        teeth();
        lackingAndSlack();
        stitching();
        refused();
        Random random = new Random(5);
        for (int round = 0; round < 3000; round++) {
            anyZip(random, 4 + random.nextInt(9));
        }
        longZip();
        DUE.end();
    }

    private static void teeth() {
        TheLiningsInIt x = new TheLiningsInIt();
        x.lack(3, true);
        x.slack(4, 9);
        x.ask(7, 9);
        DUE.is("teeth(40)", x.teeth(40), 20);
        DUE.is("AT", x.status(2), 0);
        DUE.is("lacking", x.strong(3), 0);
        DUE.is("catching", x.catches(-1), 0);
        x.slack(39, 9);
        x.lack(38, true);
        DUE.is("teeth(4)", x.teeth(4), 40);
        DUE.is("lack(4, true) of 4", x.lack(4, true), -1);
        DUE.is("teeth(3)", x.teeth(3), -6);
        DUE.is("teeth(41)", x.teeth(41), -6);
        DUE.is("status(1)", x.status(1), 4);
        DUE.is("teeth(40) again", x.teeth(40), 4);
        DUE.is("slack(39, 0)", x.slack(39, 0), 0);
        DUE.is("lack(38, false)", x.lack(38, false), 0);
    }

    private static void lackingAndSlack() {
        TheLiningsInIt x = new TheLiningsInIt();
        DUE.is("lack(19, true)", x.lack(19, true), 0);
        DUE.is("lack(19, true) again", x.lack(19, true), 1);
        DUE.is("lack(19, false)", x.lack(19, false), 1);
        DUE.is("lack(20, true)", x.lack(20, true), -1);
        DUE.is("lack(-1, true)", x.lack(-1, true), -1);
        DUE.is("slack(0, 9)", x.slack(0, 9), 0);
        DUE.is("slack(0, 10)", x.slack(0, 10), -6);
        DUE.is("slack(0, -1)", x.slack(0, -1), -6);
        DUE.is("slack(20, 10)", x.slack(20, 10), -1);
        DUE.is("slack(0, 2)", x.slack(0, 2), 9);
        DUE.is("SLACK under the GAP", x.catches(-1), 0);
        x.slack(0, 3);
        DUE.is("SLACK of the GAP", x.catches(-1), 1);
        DUE.is("closed()", x.closed(), 0);
        x.lack(0, true);
        DUE.is("one LACKING doesn't catch", x.catches(-1), 0);
        DUE.is("closed() past it", x.closed(), 20);
    }

    private static void stitching() {
        TheLiningsInIt x = new TheLiningsInIt();
        for (int tooth = 0; tooth < 20; tooth++) {
            x.slack(tooth, 5);
        }
        DUE.is("stitches(-1)", x.stitches(-1), 4);
        DUE.is("stitches(3)", x.stitches(3), 17);
        DUE.is("stitch(0)", x.stitch(0), 15);
        DUE.is("stitch(19)", x.stitch(19), 15);
        DUE.is("stitch(10)", x.stitch(10), 25);
        DUE.is("stitch(10) again", x.stitch(10), 0);
        DUE.is("stitch(20)", x.stitch(20), -1);
        DUE.is("stitch(-1)", x.stitch(-1), -1);
        DUE.is("slack(3, 5)", x.slack(3, 5), 5);
        DUE.is("slack(2, 5)", x.slack(2, 5), 0);
        x.lack(4, true);
        DUE.is("stitch(4) of one LACKING", x.stitch(4), 25);
    }

    private static void refused() {
        TheLiningsInIt x = new TheLiningsInIt();
        DUE.is("strong(4)", x.strong(4), -5);
        DUE.is("strong(-1)", x.strong(-1), -5);
        DUE.is("catches(0)", x.catches(0), -5);
        DUE.is("catches(-2)", x.catches(-2), -5);
        DUE.is("stitches(0)", x.stitches(0), -5);
        DUE.is("stitches(-2)", x.stitches(-2), -5);
        x.slack(7, 4);
        DUE.is("catches(0) of one", x.catches(0), 7);
        DUE.is("catches(1) of one", x.catches(1), -5);
        DUE.is("stitches(0) of one", x.stitches(0), 9);
        DUE.is("stitches(1) of one", x.stitches(1), -5);
        DUE.is("stitches(int) of one", x.stitches(Integer.MAX_VALUE), -5);
    }

    private static boolean holds(int lacking) {
        return (lacking & lacking >> 1 & lacking >> 2) == 0;
    }

    private static void anyZip(Random random, int n) {
        TheLiningsInIt x = new TheLiningsInIt();
        int gap = 1 + random.nextInt(9);
        int lacking = 0;
        int[] slack = new int[n];
        x.teeth(n);
        x.ask(3, gap);
        for (int tooth = 0; tooth < n; tooth++) {
            boolean is = random.nextInt(4) == 0;
            slack[tooth] = random.nextInt(10);
            lacking |= is ? 1 << tooth : 0;
            x.lack(tooth, is);
            x.slack(tooth, slack[tooth]);
        }
        strength(x, n, lacking);
        int catching = 0;
        for (int tooth = 0; tooth < n; tooth++) {
            if (slack[tooth] >= gap && (lacking >> tooth & 1) == 0) {
                DUE.is("the i-th that catches", x.catches(Integer.bitCount(catching)), tooth);
                catching |= 1 << tooth;
            }
        }
        DUE.is("how many catch", x.catches(-1), Integer.bitCount(catching));
        DUE.is("one more", x.catches(Integer.bitCount(catching)), -5);
        closing(x, n, lacking, catching, random.nextInt(n + 1));
        stitches(x, n, catching);
    }

    private static void strength(TheLiningsInIt x, int n, int lacking) {
        int frail = 0;
        for (int tooth = 0; tooth < n; tooth++) {
            if ((lacking >> tooth & 1) == 0 && !holds(lacking | 1 << tooth)) {
                frail++;
            }
        }
        int spare = 0;
        for (int all = 0; all < 1 << n; all++) {
            if ((all & lacking) == lacking && holds(all)) {
                spare = Math.max(spare, Integer.bitCount(all) - Integer.bitCount(lacking));
            }
        }
        DUE.is("HOLDS", x.strong(0), holds(lacking) ? 1 : 0);
        DUE.is("FRAIL", x.strong(1), holds(lacking) ? frail : 0);
        DUE.is("SPARE", x.strong(2), spare);
        DUE.is("LACKING", x.strong(3), Integer.bitCount(lacking));
    }

    private static void closing(TheLiningsInIt x, int n, int lacking, int catching, int at) {
        int due = at;
        while (due < n && (catching >> due & 1) == 0 && (lacking >> due & 7) != 7) {
            due++;
        }
        x.ask(7, at);
        DUE.is("closed() from " + at, x.closed(), due);
        DUE.is("AT is as it was", x.status(2), at);
    }

    /** By all sets of stitches: the fewest, and of those the one furthest on, stitch by stitch. */
    private static void stitches(TheLiningsInIt x, int n, int catching) {
        int fewest = n;
        for (int set = 0; set < 1 << n; set++) {
            int taken = set | set << 1 | set << 2 | set >> 1 | set >> 2;
            if ((catching & ~taken) == 0) {
                fewest = Math.min(fewest, Integer.bitCount(set));
            }
        }
        DUE.is("how few stitches", x.stitches(-1), fewest);
        DUE.is("no more", x.stitches(fewest), -5);
        int left = catching;
        for (int i = 0; i < fewest; i++) {
            int first = Integer.numberOfTrailingZeros(left);
            int place = Math.min(n - 1, first + 2);
            DUE.is("the i-th stitch", x.stitches(i), place);
            left &= place + 3 > 31 ? 0 : -1 << place + 3;
        }
    }

    private static void longZip() {
        TheLiningsInIt x = new TheLiningsInIt();
        x.teeth(40);
        DUE.is("SPARE of 40", x.strong(2), 27);
        x.lack(0, true);
        x.lack(39, true);
        DUE.is("SPARE of 40 without the ends", x.strong(2), 25);
        x.lack(38, true);
        DUE.is("FRAIL beside the end", x.strong(1), 1);
        x.lack(37, true);
        DUE.is("the end lacks three", x.strong(0), 0);
        DUE.is("closed() at the end", x.closed(), 37);
        x.ask(7, 38);
        DUE.is("closed() past it", x.closed(), 40);
    }
}
