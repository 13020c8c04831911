import java.util.Random;

/** Promises 21 to 23: what is believed of how deep it sits. */
public final class BeliefTest {
    private static final Due DUE = new Due("BeliefTest");

    public static void main(String[] args) {
        byHand();
        refused();
        withoutPullsOrWeights();
        sorts();
        Random random = new Random(4);
        for (int round = 0; round < 300; round++) {
            anyBelief(random);
        }
        DUE.end();
    }

    private static void byHand() {
        TheLiningsInIt x = new TheLiningsInIt();
        x.pull(2, 3, 5);
        int[] weights = new int[26];
        weights[0] = 2;
        weights[1] = 10;
        weights[4] = 1;
        weights[25] = 1000;
        Due.ints(x, 0, weights);
        DUE.is("HARD frees 7 of 12 at 1, 6 at 4", x.freed(0, 0), 2 * 12 + 10 * 7 + 6);
        DUE.is("behind it 0", x.behind(0, 0, 0), 2 * 12 + 10 * 7);
        DUE.is("behind it 1", x.behind(0, 0, 1), 6);
        DUE.is("behind it 3", x.behind(0, 0, 3), 10 * 5);
        DUE.is("behind it 6", x.behind(0, 0, 6), 6);
        DUE.is("behind it 24", x.behind(0, 0, 24), 0);
        x.ask(2, 6);
        DUE.is("by HURRY 6", x.behind(0, 0, 4), 10 * 7);
    }

    private static void refused() {
        TheLiningsInIt x = new TheLiningsInIt();
        x.pull(0, 0, 1);
        x.show(1, 0);
        x.row(2, 0, 24);
        x.set(2, 0, 100);
        x.row(3, 0, 25);
        x.set(3, 24, 100);
        DUE.is("freed(8, 0)", x.freed(8, 0), -1);
        DUE.is("freed(0, 1)", x.freed(0, 1), -1);
        DUE.is("freed(1, 0)", x.freed(1, 0), -2);
        DUE.is("freed(0, 0)", x.freed(0, 0), -3);
        DUE.is("freed(2, 0)", x.freed(2, 0), -5);
        DUE.is("freed(3, 0)", x.freed(3, 0), -6);
        DUE.is("best(-1)", x.best(-1), -11);
        DUE.is("best(1)", x.best(1), -12);
        DUE.is("best(0)", x.best(0), -13);
        DUE.is("best(2)", x.best(2), -15);
        DUE.is("best(3)", x.best(3), -16);
        DUE.is("behind(-1, 0, 25)", x.behind(-1, 0, 25), -1);
        DUE.is("behind(1, -1, 25)", x.behind(1, -1, 25), -1);
        DUE.is("behind(1, 0, 25)", x.behind(1, 0, 25), -2);
        DUE.is("behind(0, 0, 25)", x.behind(0, 0, 25), -3);
        DUE.is("behind(2, 0, 25)", x.behind(2, 0, 25), -5);
        DUE.is("behind(3, 0, 0)", x.behind(3, 0, 0), -6);
        x.set(3, 24, -1);
        DUE.is("a weight below 0", x.freed(3, 0), -6);
        x.set(3, 24, 99);
        x.set(3, 0, 100);
        DUE.is("the first weight", x.freed(3, 0), -6);
        x.set(3, 0, 0);
        DUE.is("a weight of 99", x.freed(3, 0), 0);
        DUE.is("behind(3, 0, 25)", x.behind(3, 0, 25), -6);
        DUE.is("behind(3, 0, -1)", x.behind(3, 0, -1), -6);
        DUE.is("behind(3, 0, 24)", x.behind(3, 0, 24), 99 * 12);
    }

    private static void withoutPullsOrWeights() {
        TheLiningsInIt x = new TheLiningsInIt();
        x.row(0, 1, 25);
        DUE.is("best without pulls", x.best(0), -1);
        x.row(1, 1, 24);
        DUE.is("best without pulls or elements", x.best(1), -15);
        x.pull(0, 0, 1);
        x.pull(5, 0, 1);
        DUE.is("best without weights", x.best(0), 0);
        x.set(0, 0, 99);
        DUE.is("best of what is free", x.best(0), 0);
        x.set(0, 1, 1);
        DUE.is("best of the rest", x.best(0), 1);
        x.pull(5, 9, 60);
        DUE.is("the first of several", x.best(0), 1);
    }

    private static void sorts() {
        TheLiningsInIt x = new TheLiningsInIt();
        x.pull(5, 0, 1);
        x.row(0, 3, 25);
        x.set(0, 3, (7L << 32) + 5);
        DUE.is("longs by their lowest bits", x.freed(0, 0), 60);
        x.set(0, 3, 1L << 31);
        DUE.is("as ints below 0", x.freed(0, 0), -6);
    }

    private static void anyBelief(Random random) {
        TheLiningsInIt x = new TheLiningsInIt();
        Pulling[] pulls = new Pulling[1 + random.nextInt(8)];
        for (int p = 0; p < pulls.length; p++) {
            pulls[p] = new Pulling(random.nextInt(7), random.nextInt(10), 1);
            x.pull(pulls[p].kind, pulls[p].a, 1);
        }
        int hurry = random.nextInt(10);
        x.ask(2, hurry);
        int[] weights = new int[25];
        for (int d = 0; d < 25; d++) {
            weights[d] = random.nextInt(3) == 0 ? random.nextInt(100) : 0;
        }
        Due.ints(x, 6, weights);
        int best = -1;
        int most = -1;
        for (int p = 0; p < pulls.length; p++) {
            int freed = weights[0] * 12;
            int[] behind = new int[25];
            behind[0] = weights[0] * 12;
            for (int d = 1; d < 25; d++) {
                int ways = pulls[p].ways(d, hurry);
                freed += weights[d] * ways;
                behind[pulls[p].freed(d)] += weights[d] * ways;
                behind[pulls[p].stuck(d, hurry)] += weights[d] * (12 - ways);
            }
            DUE.is("freed", x.freed(6, p), freed);
            for (int d = 0; d < 25; d++) {
                DUE.is("behind " + d, x.behind(6, p, d), behind[d]);
            }
            best = freed > most ? p : best;
            most = Math.max(most, freed);
        }
        DUE.is("best", x.best(6), best);
    }
}
