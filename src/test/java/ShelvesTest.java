/** Promises 1 to 7: a new object, rows, elements, and what shelves hold. */
public final class ShelvesTest {
    private static final Due DUE = new Due("ShelvesTest");

    public static void main(String[] args) {
        aNewObject();
        rows();
        setting();
        copying();
        copyingRefused();
        elements();
        showing();
        DUE.end();
    }

    private static void aNewObject() {
        TheLiningsInIt x = new TheLiningsInIt();
        int[] due = {0, 20, 0, 0, 0, 60, 0, 3, 1, 0, -1, 0, 0, 0, 0, 0, 0, 0, -1};
        for (int what = 0; what < due.length; what++) {
            DUE.is("status(" + what + ")", x.status(what), due[what]);
        }
        for (int s = -1; s <= 8; s++) {
            DUE.is("holds(" + s + ")", x.holds(s), -1);
        }
        DUE.is("NONE", TheLiningsInIt.NONE, -1);
        DUE.is("fault()", x.fault(), -1);
        DUE.is("trace(0)", x.trace(0), -1);
        DUE.is("strong(0)", x.strong(0), 1);
        DUE.is("strong(3)", x.strong(3), 0);
        DUE.is("catches(-1)", x.catches(-1), 0);
        DUE.is("closed()", x.closed(), 20);
        DUE.is("ask(4, 5)", x.ask(4, 5), 5);
        DUE.is("ask(5, 10)", x.ask(5, 10), 10);
        DUE.is("ask(6, 50)", x.ask(6, 50), 50);
        for (int tooth = 0; tooth < 20; tooth++) {
            DUE.is("slack(" + tooth + ", 0)", x.slack(tooth, 0), 0);
            DUE.is("lack(" + tooth + ", false)", x.lack(tooth, false), 0);
        }
    }

    private static void rows() {
        TheLiningsInIt x = new TheLiningsInIt();
        for (int sort = 0; sort < 4; sort++) {
            DUE.is("row(7, sort, 160)", x.row(7, sort, 160), 1);
            DUE.is("holds(7)", x.holds(7), 100 + sort);
            DUE.is("element(7, 159)", x.element(7, 159), 0);
            DUE.is("set(7, 159, 7)", x.set(7, 159, 7), 1);
        }
        DUE.is("row(7, 3, 160) anew", x.row(7, 3, 160), 1);
        DUE.is("element(7, 159) anew", x.element(7, 159), 0);
        DUE.is("row(0, 0, 0)", x.row(0, 0, 0), 1);
        DUE.is("set(0, 0, 1) of an empty row", x.set(0, 0, 1), -5);
        DUE.is("row(-1, 9, -1)", x.row(-1, 9, -1), -1);
        DUE.is("row(8, 0, 1)", x.row(8, 0, 1), -1);
        DUE.is("row(0, 4, -1)", x.row(0, 4, -1), -4);
        DUE.is("row(0, 4, 161)", x.row(0, 4, 161), -6);
        DUE.is("row(0, -1, 1)", x.row(0, -1, 1), -6);
        DUE.is("row(0, 3, 161)", x.row(0, 3, 161), -7);
        DUE.is("holds(0) still", x.holds(0), 100);
        DUE.is("status(11)", x.status(11), 2);
        DUE.is("status(14)", x.status(14), 1);
        DUE.is("status(15)", x.status(15), 1);
        DUE.is("status(16)", x.status(16), 2);
        DUE.is("status(17)", x.status(17), 1);
    }

    private static void setting() {
        TheLiningsInIt x = new TheLiningsInIt();
        long[] put = {0, 127, 128, -129, 255, 65535, 32768, 1L << 31, -1L, Long.MIN_VALUE, Long.MAX_VALUE};
        for (long v : put) {
            for (int sort = 0; sort < 4; sort++) {
                x.row(1, sort, 3);
                DUE.is("set(1, 2, " + v + ")", x.set(1, 2, v), 1);
                long due = sort == 0 ? (byte) v : sort == 1 ? (short) v : sort == 2 ? (int) v : v;
                DUE.is("element of sort " + sort, x.element(1, 2), due);
                DUE.is("its neighbour", x.element(1, 1), 0);
            }
        }
        DUE.is("set(8, 9, 1)", x.set(8, 9, 1), -1);
        DUE.is("set(0, 0, 1)", x.set(0, 0, 1), -3);
        x.pull(0, 0, 1);
        x.show(2, 0);
        DUE.is("set(2, 9, 1)", x.set(2, 9, 1), -2);
        DUE.is("set(1, 3, 1)", x.set(1, 3, 1), -5);
        DUE.is("set(1, -1, 1)", x.set(1, -1, 1), -5);
    }

    private static void copying() {
        TheLiningsInIt x = new TheLiningsInIt();
        Due.ints(x, 0, 1, 2, 3, 4, 5);
        DUE.is("copy(0, 0, 0, 1, 4)", x.copy(0, 0, 0, 1, 4), 1);
        int[] forth = {1, 1, 2, 3, 4};
        for (int i = 0; i < 5; i++) {
            DUE.is("element behind a copy onto itself", x.element(0, i), forth[i]);
        }
        DUE.is("copy(0, 0, 2, 1, 3)", x.copy(0, 0, 2, 1, 3), 1);
        int[] back = {1, 2, 3, 4, 4};
        for (int i = 0; i < 5; i++) {
            DUE.is("element behind a copy back", x.element(0, i), back[i]);
        }
        Due.ints(x, 1, 9, 9, 9);
        DUE.is("copy(0, 1, 3, 1, 2)", x.copy(0, 1, 3, 1, 2), 1);
        DUE.is("element(1, 0)", x.element(1, 0), 9);
        DUE.is("element(1, 1)", x.element(1, 1), 4);
        DUE.is("copy(0, 1, 5, 3, 0)", x.copy(0, 1, 5, 3, 0), 1);
    }

    private static void copyingRefused() {
        TheLiningsInIt x = new TheLiningsInIt();
        Due.ints(x, 0, 1, 2, 3, 4, 5);
        Due.ints(x, 1, 9, 9, 9);
        x.row(2, 3, 5);
        x.pull(0, 0, 1);
        x.show(3, 0);
        DUE.is("copy(8, 3, ..)", x.copy(8, 3, 0, 0, -1), -1);
        DUE.is("copy(3, -1, ..)", x.copy(3, -1, 0, 0, -1), -1);
        DUE.is("copy from a pull to nothing", x.copy(3, 7, 0, 0, -1), -2);
        DUE.is("copy from nothing to a pull", x.copy(7, 3, 0, 0, -1), -2);
        DUE.is("copy of two sorts", x.copy(0, 2, 0, 0, -1), -2);
        DUE.is("copy to nothing", x.copy(0, 7, 0, 0, -1), -3);
        DUE.is("copy from nothing", x.copy(7, 0, 0, 0, -1), -3);
        DUE.is("copy of -1", x.copy(0, 1, -1, 0, -1), -4);
        DUE.is("copy from -1", x.copy(0, 1, -1, 0, 1), -5);
        DUE.is("copy to -1", x.copy(0, 1, 0, -1, 1), -5);
        DUE.is("copy from 6 of 5", x.copy(0, 1, 6, 0, 0), -5);
        DUE.is("copy too far from", x.copy(0, 1, 4, 0, 2), -5);
        DUE.is("copy too far to", x.copy(0, 1, 0, 2, 2), -5);
        DUE.is("copy of far too many", x.copy(0, 1, 1, 1, Integer.MAX_VALUE), -5);
        DUE.is("copy from the last int", x.copy(0, 1, Integer.MAX_VALUE, 0, 1), -5);
        DUE.is("element(1, 0) still", x.element(1, 0), 9);
    }

    private static void elements() {
        TheLiningsInIt x = new TheLiningsInIt();
        Due.ints(x, 0, 5, 6);
        x.pull(0, 0, 1);
        x.show(1, 0);
        DUE.is("element(0, 1)", x.element(0, 1), 6);
        DUE.is("element(0, 2)", x.element(0, 2), 0);
        DUE.is("element(0, -1)", x.element(0, -1), 0);
        DUE.is("element(1, 0)", x.element(1, 0), 0);
        DUE.is("element(2, 0)", x.element(2, 0), 0);
        x.row(2, 3, 160);
        DUE.is("element(2, 160) of 160", x.element(2, 160), 0);
        DUE.is("set(2, 160, 1) of 160", x.set(2, 160, 1), -5);
        x.set(2, 159, 4);
        x.row(2, 3, 4);
        DUE.is("element(2, 159) of 4", x.element(2, 159), 0);
        x.show(2, -1);
        DUE.is("element(8, 0)", x.element(8, 0), 0);
        for (int no = 11; no <= 17; no++) {
            DUE.is("only a set was refused", x.status(no), no == 15 ? 1 : 0);
        }
    }

    private static void showing() {
        TheLiningsInIt x = new TheLiningsInIt();
        DUE.is("show(0, 0) of none", x.show(0, 0), -1);
        x.pull(1, 0, 1);
        x.pull(2, 0, 1);
        DUE.is("show(0, 1)", x.show(0, 1), 1);
        DUE.is("holds(0)", x.holds(0), 1);
        DUE.is("show(0, 2)", x.show(0, 2), -1);
        DUE.is("show(0, -2)", x.show(0, -2), -1);
        DUE.is("show(8, -1)", x.show(8, -1), -1);
        DUE.is("show(-1, 0)", x.show(-1, 0), -1);
        DUE.is("holds(0) still", x.holds(0), 1);
        DUE.is("show(0, -1)", x.show(0, -1), 0);
        DUE.is("holds(0) nothing", x.holds(0), -1);
        x.row(0, 1, 4);
        DUE.is("show(0, 0) over a row", x.show(0, 0), 1);
        DUE.is("holds(0) a pull", x.holds(0), 0);
        DUE.is("row(0, 1, 4) over a pull", x.row(0, 1, 4), 1);
        DUE.is("holds(0) a row", x.holds(0), 101);
        DUE.is("show(0, -1) over a row", x.show(0, -1), 0);
        DUE.is("element(0, 0) of nothing", x.element(0, 0), 0);
        DUE.is("status(11)", x.status(11), 5);
    }
}
