import java.util.ArrayList;
import java.util.List;
import java.util.Random;

/** Promises 35 and 36: moves and their trace, beside classes of Java that have these bodies. */
public final class MovesTest {
    private static final Due DUE = new Due("MovesTest");
    private static final List<Integer> TRACE = new ArrayList<>();

    private static class Plain {
        int m;
        int k;

        int pulls(int x) {
            TRACE.add(10);
            return x + m;
        }

        int frees(int x) {
            TRACE.add(11);
            return pulls(x) * 2;
        }

        int rests(int x) {
            TRACE.add(12);
            return frees(x) ^ pulls(x - k);
        }
    }

    private static class Gentle extends Plain {
        @Override
        int pulls(int x) {
            TRACE.add(20);
            return super.pulls(x) + k;
        }
    }

    private static class Hard extends Plain {
        @Override
        int frees(int x) {
            TRACE.add(30);
            return super.frees(x) * 3;
        }
    }

    private static final class Smeared extends Gentle {
        @Override
        int frees(int x) {
            TRACE.add(40);
            return super.frees(x + 1);
        }
    }

    private static class Slant extends Plain {
        @Override
        int rests(int x) {
            TRACE.add(50);
            return -super.rests(x);
        }

        @Override
        int pulls(int x) {
            TRACE.add(51);
            return super.pulls(x) - m;
        }
    }

    private static final class Tear extends Hard {
        @Override
        int rests(int x) {
            TRACE.add(60);
            return super.rests(x) ^ 5;
        }
    }

    private static final class Helped extends Slant {
        @Override
        int pulls(int x) {
            TRACE.add(70);
            return super.pulls(x) * 2;
        }

        @Override
        int frees(int x) {
            TRACE.add(71);
            return super.frees(x - k);
        }
    }

    private static Plain made(int kind) {
        switch (kind) {
            case 0:
                return new Plain();
            case 1:
                return new Gentle();
            case 2:
                return new Hard();
            case 3:
                return new Smeared();
            case 4:
                return new Slant();
            case 5:
                return new Tear();
            default:
                return new Helped();
        }
    }

    public static void main(String[] args) {
        noneSuch();
        Random random = new Random(1);
        int[] edges = {0, 1, -1, Integer.MAX_VALUE, Integer.MIN_VALUE, 1 << 30, -5};
        for (int kind = 0; kind < 7; kind++) {
            for (int number = 0; number < 8; number++) {
                for (int round = 0; round < 12; round++) {
                    int x = round < edges.length ? edges[round] : random.nextInt();
                    moves(kind, number, random.nextInt(10), x);
                }
            }
        }
        DUE.end();
    }

    private static void moves(int kind, int number, int a, int x) {
        TheLiningsInIt one = new TheLiningsInIt();
        for (int p = 0; p < number; p++) {
            one.pull(0, 0, 1);
        }
        one.pull(kind, a, 1);
        Plain due = made(kind);
        due.m = number;
        due.k = a;
        for (int move = 0; move < 3; move++) {
            TRACE.clear();
            int want = move == 0 ? due.pulls(x) : move == 1 ? due.frees(x) : due.rests(x);
            DUE.is("move " + move + " of kind " + kind, one.act(number, move, x), want);
            DUE.is("how many bodies", one.status(9), TRACE.size());
            for (int i = 0; i < 20; i++) {
                DUE.is("body " + i, one.trace(i), i < TRACE.size() ? TRACE.get(i) : -1);
            }
        }
    }

    private static void noneSuch() {
        TheLiningsInIt x = new TheLiningsInIt();
        DUE.is("none yet", x.trace(0), -1);
        DUE.is("act(0, 0, 7) of no pull", x.act(0, 0, 7), 0);
        x.pull(6, 3, 1);
        x.act(0, 2, 7);
        DUE.is("its bodies", x.status(9), 10);
        DUE.is("its first", x.trace(0), 50);
        DUE.is("trace(-1)", x.trace(-1), -1);
        DUE.is("trace(10)", x.trace(10), -1);
        DUE.is("trace(20)", x.trace(20), -1);
        DUE.is("trace(int)", x.trace(Integer.MAX_VALUE), -1);
        DUE.is("act(0, 3, 7)", x.act(0, 3, 7), 0);
        DUE.is("no bodies", x.status(9), 0);
        DUE.is("no trace", x.trace(0), -1);
        x.act(0, 0, 7);
        DUE.is("act(0, -1, 7)", x.act(0, -1, 7), 0);
        DUE.is("no trace", x.trace(0), -1);
        x.act(0, 0, 7);
        DUE.is("act(-1, 0, 7)", x.act(-1, 0, 7), 0);
        DUE.is("no trace", x.trace(0), -1);
        for (int no = 11; no <= 17; no++) {
            DUE.is("nothing was refused", x.status(no), 0);
        }
    }
}
