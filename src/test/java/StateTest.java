/** Promises 14, 34 and 37 to 39: numbers asked, the seed, the image, and how many of all. */
public final class StateTest {
    private static final Due DUE = new Due("StateTest");

    public static void main(String[] args) {
        asking();
        seeds();
        imageKeepsAll();
        imageAndShelves();
        whatTheImageLeaves();
        refusalsCounted();
        DUE.end();
    }

    private static void asking() {
        TheLiningsInIt x = new TheLiningsInIt();
        int[] first = {0, 60, 0, 3, 5, 10, 50, 0};
        int[] least = {0, 0, 0, 1, 0, 0, 0, 0};
        int[] most = {24, 300, 9, 9, 99, 99, 99, 20};
        for (int what = 0; what < 8; what++) {
            String ask = "ask(" + what + ", ..) ";
            DUE.is(ask + "most", x.ask(what, most[what]), first[what]);
            DUE.is(ask + "above", x.ask(what, most[what] + 1), -6);
            DUE.is(ask + "below", x.ask(what, least[what] - 1), -6);
            DUE.is(ask + "least", x.ask(what, least[what]), most[what]);
            DUE.is(ask + "most again", x.ask(what, most[what]), least[what]);
        }
        DUE.is("ask(8, 0)", x.ask(8, 0), -6);
        DUE.is("ask(-1, 0)", x.ask(-1, 0), -6);
        int[] status = {2, 3, 5, 6, 7};
        int[] due = {20, 24, 300, 9, 9};
        for (int i = 0; i < 5; i++) {
            DUE.is("status(" + status[i] + ")", x.status(status[i]), due[i]);
        }
        x.teeth(4);
        DUE.is("ask(7, 5) of 4 teeth", x.ask(7, 5), -6);
        DUE.is("ask(7, 4) of 4 teeth", x.ask(7, 4), 0);
    }

    private static void seeds() {
        TheLiningsInIt x = new TheLiningsInIt();
        DUE.is("the first seed", x.seed(Integer.MIN_VALUE), 1);
        DUE.is("status(8)", x.status(8), Integer.MIN_VALUE);
        DUE.is("the seed before", x.seed(-1), Integer.MIN_VALUE);
        DUE.is("the seed before", x.seed(7), -1);
    }

    private static void fill(TheLiningsInIt x) {
        x.teeth(30);
        x.lack(7, true);
        x.slack(9, 8);
        x.ask(7, 5);
        x.pull(5, 4, 3);
        x.pull(2, 9, 6);
        for (int what = 0; what < 7; what++) {
            x.ask(what, 2 + what);
        }
        x.pulls(0);
        x.ask(0, 2);
        x.seed(99);
    }

    private static void asFilled(TheLiningsInIt x, String when) {
        int[] due = {2, 30, 5, 2, 1, 0, 4, 5, 99};
        for (int what = 0; what < due.length; what++) {
            DUE.is(when + " status(" + what + ")", x.status(what), due[what]);
        }
        DUE.is(when + " lacking", x.strong(3), 1);
        DUE.is(when + " the tooth", x.lack(7, true), 1);
        DUE.is(when + " slack", x.slack(9, 8), 8);
        DUE.is(when + " cost of a tear", x.ask(4, 6), 6);
        DUE.is(when + " cost of the head", x.ask(5, 7), 7);
        DUE.is(when + " cost of missing", x.ask(6, 8), 8);
        DUE.is(when + " kind of 0", x.pullOf(0, 0), 5);
        DUE.is(when + " a of 1", x.pullOf(1, 1), 9);
        DUE.is(when + " takes of 1", x.pullOf(1, 2), 6);
        DUE.is(when + " no pull 2", x.pullOf(2, 0), -5);
    }

    private static void disturb(TheLiningsInIt x) {
        x.teeth(10);
        x.slack(3, 9);
        x.lack(4, true);
        x.pull(3, 3, 3);
        for (int what = 0; what < 8; what++) {
            x.ask(what, 9);
        }
        x.pulls(0);
        x.pulls(0);
        x.seed(5);
    }

    private static void imageKeepsAll() {
        TheLiningsInIt x = new TheLiningsInIt();
        DUE.is("restore() of none", x.restore(), -6);
        fill(x);
        x.ask(1, 3);
        x.ask(1, 0);
        asFilled(x, "filled");
        DUE.is("image()", x.image(), 2);
        for (int time = 0; time < 3; time++) {
            disturb(x);
            DUE.is("disturbed", x.status(1), 10);
            DUE.is("restore()", x.restore(), 2);
            asFilled(x, "restored");
        }
        disturb(x);
        DUE.is("image() anew", x.image(), 3);
        x.teeth(4);
        DUE.is("restore() of the new one", x.restore(), 3);
        DUE.is("its teeth", x.status(1), 10);
        DUE.is("its torn inches", x.status(4), 3);
    }

    private static void imageAndShelves() {
        TheLiningsInIt x = new TheLiningsInIt();
        x.pull(1, 0, 1);
        x.show(0, 0);
        x.row(1, 3, 4);
        x.set(1, 2, 77);
        x.image();
        x.pull(2, 0, 1);
        x.show(2, 1);
        x.show(3, 0);
        x.show(5, 0);
        x.show(5, -1);
        x.show(7, 1);
        x.show(0, 1);
        x.row(1, 0, 2);
        x.set(1, 0, 5);
        x.row(4, 1, 1);
        DUE.is("restore()", x.restore(), 1);
        DUE.is("a shelf that holds nothing", x.holds(5), -1);
        DUE.is("the first shelf", x.holds(0), -1);
        DUE.is("the last shelf", x.holds(7), -1);
        DUE.is("a row is no part of it", x.holds(1), 100);
        DUE.is("nor its elements", x.element(1, 0), 5);
        DUE.is("a pull that is no more", x.holds(2), -1);
        DUE.is("a pull that still is", x.holds(3), 0);
        DUE.is("a row made since", x.holds(4), 101);
        x.pull(4, 5, 6);
        DUE.is("says of what was forgotten", x.says(2, 0), -3);
        DUE.is("the new pull's number", x.status(0), 2);
        x.restore();
        DUE.is("restored again", x.status(0), 1);
    }

    private static void whatTheImageLeaves() {
        TheLiningsInIt x = new TheLiningsInIt();
        x.pull(2, 3, 1);
        x.image();
        x.act(0, 1, 5);
        Due.text(x, 0, "teeth 3");
        x.jacket(0);
        x.teeth(99);
        x.restore();
        DUE.is("the TRACE stays", x.status(9), 3);
        DUE.is("its body", x.trace(0), 30);
        DUE.is("the FAULT stays", x.fault(), 6);
        DUE.is("the REFUSALS stay", x.status(16), 2);
    }

    private static void refusalsCounted() {
        TheLiningsInIt x = new TheLiningsInIt();
        x.row(8, 0, 0);
        x.best(9);
        x.best(0);
        x.judge(0, 0);
        x.row(0, 0, 2);
        x.judge(0, -1);
        x.judge(0, 3);
        x.best(0);
        x.cases(0, 3);
        x.cases(5, 0);
        x.line(-1, 0);
        x.line(0, 2);
        x.row(0, 0, 161);
        x.pull(0, 0, 1);
        x.show(1, 0);
        x.best(1);
        int[] due = {2, 1, 2, 1, 4, 2, 1};
        for (int no = 1; no <= 7; no++) {
            DUE.is("status(" + (10 + no) + ")", x.status(10 + no), due[no - 1]);
        }
        DUE.is("status(10)", x.status(10), -1);
        DUE.is("status(18)", x.status(18), -1);
        DUE.is("status(-1)", x.status(-1), -1);
        DUE.is("status(int)", x.status(Integer.MIN_VALUE), -1);
    }
}
