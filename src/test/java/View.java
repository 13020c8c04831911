import java.util.ArrayList;
import java.util.List;

/** All that can be asked of an object, its image too. What is asked changes it: it is good for nothing then. */
final class View {
    private View() {
    }

    /** Some 340 calls. */
    static List<Long> of(TheLiningsInIt x) {
        List<Long> view = new ArrayList<>();
        for (int what = 0; what < 10; what++) {
            view.add((long) x.status(what));
        }
        view.add((long) x.fault());
        for (int i = 0; i < 20; i++) {
            view.add((long) x.trace(i));
        }
        for (int s = 0; s < 8; s++) {
            view.add((long) x.holds(s));
            for (int i = 0; i < 8; i++) {
                view.add(x.element(s, i));
            }
        }
        jacket(x, view);
        view.add((long) x.restore());
        for (int what = 0; what < 9; what++) {
            view.add((long) x.status(what));
        }
        jacket(x, view);
        return view;
    }

    private static void jacket(TheLiningsInIt x, List<Long> view) {
        for (int p = 0; p < 8; p++) {
            for (int what = 0; what < 3; what++) {
                view.add((long) x.pullOf(p, what));
            }
        }
        for (int cost = 4; cost < 7; cost++) {
            view.add((long) x.ask(cost, 0));
        }
        for (int tooth = 0; tooth < 40; tooth++) {
            view.add((long) x.lack(tooth, true));
            view.add((long) x.slack(tooth, 0));
        }
    }

    static long[] refusals(TheLiningsInIt x) {
        long[] refusals = new long[8];
        for (int no = 1; no < 8; no++) {
            refusals[no] = x.status(10 + no);
        }
        return refusals;
    }
}
