/** Promises 8 to 10 and 17: what pulls say, are, and do to a depth. */
public final class PullsTest {
    private static final Due DUE = new Due("PullsTest");

    public static void main(String[] args) {
        byHand();
        everyPull();
        making();
        telling();
        saying();
        sayingRefused();
        freeingRefused();
        DUE.end();
    }

    /** Numbers worked out by hand from the document's words. */
    private static void byHand() {
        TheLiningsInIt x = new TheLiningsInIt();
        x.pull(2, 7, 5);
        x.pull(3, 5, 5);
        x.pull(6, 9, 5);
        x.pull(5, 9, 5);
        DUE.is("HARD at 24", x.frees(0, 24, 0), 2);
        DUE.is("HARD at 3", x.frees(0, 3, 0), 8);
        DUE.is("HARD frees 4 from 9", x.frees(0, 9, 1), 5);
        DUE.is("HARD frees no deeper than 0", x.frees(0, 3, 1), 0);
        DUE.is("HARD sits 3 deeper", x.frees(0, 9, 2), 12);
        DUE.is("HARD sits 24 deep at most", x.frees(0, 22, 2), 24);
        DUE.is("SMEARED at 4", x.frees(1, 4, 0), 9);
        DUE.is("HELPED at 5", x.frees(2, 5, 0), 10);
        x.ask(2, 5);
        DUE.is("SMEARED stays by HURRY 5", x.frees(1, 4, 2), 4);
        DUE.is("SMEARED at 4 by HURRY 5", x.frees(1, 4, 0), 8);
        x.ask(2, 6);
        DUE.is("SMEARED sits deeper by HURRY 6", x.frees(1, 4, 2), 5);
        DUE.is("HARD sits 4 deeper by HURRY 6", x.frees(0, 9, 2), 13);
        DUE.is("a TEAR stays by HURRY 6", x.frees(3, 9, 2), 9);
        DUE.is("a TEAR frees by HURRY 6", x.frees(3, 9, 0), 12);
        DUE.is("a TEAR by 4", x.frees(3, 9, 1), 5);
    }

    private static void everyPull() {
        for (int a = 0; a <= 9; a++) {
            for (int hurry = 0; hurry <= 9; hurry++) {
                for (int kind = 0; kind < 7; kind++) {
                    everyDepth(new Pulling(kind, a, 1 + a), hurry);
                }
            }
        }
    }

    private static void everyDepth(Pulling p, int hurry) {
        TheLiningsInIt x = new TheLiningsInIt();
        x.pull(p.kind, p.a, p.takes);
        x.ask(2, hurry);
        String pull = "kind " + p.kind + " a " + p.a + " hurry " + hurry + " depth ";
        for (int d = 1; d <= 24; d++) {
            DUE.is(pull + d + " frees", x.frees(0, d, 0), p.ways(d, hurry));
            DUE.is(pull + d + " freed", x.frees(0, d, 1), p.freed(d));
            DUE.is(pull + d + " stuck", x.frees(0, d, 2), p.stuck(d, hurry));
        }
    }

    private static void making() {
        TheLiningsInIt x = new TheLiningsInIt();
        DUE.is("pull(-1, 99, 0)", x.pull(-1, 99, 0), -1);
        DUE.is("pull(7, 0, 1)", x.pull(7, 0, 1), -1);
        DUE.is("pull(0, -1, 1)", x.pull(0, -1, 1), -6);
        DUE.is("pull(0, 10, 1)", x.pull(0, 10, 1), -6);
        DUE.is("pull(0, 0, 0)", x.pull(0, 0, 0), -6);
        DUE.is("pull(0, 0, 61)", x.pull(0, 0, 61), -6);
        for (int p = 0; p < 8; p++) {
            DUE.is("pull " + p, x.pull(p % 7, p, 60 - p), p);
            DUE.is("status(0)", x.status(0), p + 1);
        }
        DUE.is("a ninth pull", x.pull(0, 0, 1), -7);
        DUE.is("a ninth pull that may not be", x.pull(0, 10, 1), -6);
        DUE.is("a ninth pull of no kind", x.pull(7, 10, 1), -1);
        DUE.is("status(0)", x.status(0), 8);
        DUE.is("status(17)", x.status(17), 1);
    }

    private static void telling() {
        TheLiningsInIt x = new TheLiningsInIt();
        x.pull(2, 8, 30);
        DUE.is("KIND", x.pullOf(0, 0), 2);
        DUE.is("a", x.pullOf(0, 1), 8);
        DUE.is("TAKES", x.pullOf(0, 2), 30);
        DUE.is("STEP", x.pullOf(0, 3), 4);
        DUE.is("may not be at depth 0", x.pullOf(0, 4), 0);
        x.ask(0, 1);
        DUE.is("may be", x.pullOf(0, 4), 1);
        x.ask(1, 30);
        DUE.is("may be in the last seconds", x.pullOf(0, 4), 1);
        x.ask(1, 29);
        DUE.is("may not be a second later", x.pullOf(0, 4), 0);
        DUE.is("another what", x.pullOf(0, 5), -5);
        DUE.is("another what below", x.pullOf(0, -1), -5);
        DUE.is("no such pull", x.pullOf(1, 0), -5);
        DUE.is("pull -1", x.pullOf(-1, 0), -5);
        DUE.is("status(15)", x.status(15), 4);
    }

    private static void saying() {
        for (int hurry = 0; hurry <= 9; hurry += 3) {
            for (int kind = 0; kind < 7; kind++) {
                Pulling p = new Pulling(kind, 3 + kind % 4, 40 + kind);
                TheLiningsInIt x = new TheLiningsInIt();
                x.pull(p.kind, p.a, p.takes);
                x.show(4, 0);
                x.ask(2, hurry);
                int[] due = {p.takes, p.ways(8, hurry), p.step(), p.ways(8, hurry),
                    p.ways(12, hurry), p.step(), p.ways(8, hurry)};
                for (int taken = 0; taken < 7; taken++) {
                    DUE.is("kind " + kind + " taken for " + taken, x.says(4, taken),
                            p.under(taken) ? due[taken] : -2);
                }
            }
        }
    }

    private static void sayingRefused() {
        TheLiningsInIt x = new TheLiningsInIt();
        x.pull(2, 0, 1);
        x.show(0, 0);
        x.row(1, 0, 1);
        DUE.is("says(8, 0)", x.says(8, 0), -1);
        DUE.is("says(0, 7)", x.says(0, 7), -1);
        DUE.is("says(0, -1)", x.says(0, -1), -1);
        DUE.is("says(2, 7) of nothing", x.says(2, 7), -1);
        DUE.is("says(1, 0) of a row", x.says(1, 0), -2);
        DUE.is("says(0, 5) of HARD", x.says(0, 5), -2);
        DUE.is("says(2, 0) of nothing", x.says(2, 0), -3);
        x.pull(5, 9, 1);
        x.show(0, 1);
        DUE.is("a TEAR taken for HARD", x.says(0, 2), 4);
    }

    private static void freeingRefused() {
        TheLiningsInIt x = new TheLiningsInIt();
        x.pull(0, 0, 1);
        DUE.is("frees(1, 0, 3)", x.frees(1, 0, 3), -1);
        DUE.is("frees(-1, 1, 0)", x.frees(-1, 1, 0), -1);
        DUE.is("frees(0, 0, 3)", x.frees(0, 0, 3), -5);
        DUE.is("frees(0, 1, -1)", x.frees(0, 1, -1), -5);
        DUE.is("frees(0, 0, 0)", x.frees(0, 0, 0), -6);
        DUE.is("frees(0, 25, 2)", x.frees(0, 25, 2), -6);
    }
}
