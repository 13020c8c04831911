/** Promises 1 to 7 and "SHELVES" of the Terms: each edge that a sentence names. */
public final class ShelfEdgesTest {
    private static final Due DUE = new Due("ShelfEdgesTest");

    public static void main(String[] args) {
        aNewObjectHoldsNothing();
        theFirstAndTheLastShelf();
        rowsOfNoneAndOf160();
        elementsAreNoughtAtFirst();
        aNewRowForgetsTheOldOne();
        lowestBitsAreKept();
        elementsFirstAndLast();
        copyOfNone();
        copyOfAll();
        copyOverItselfTakesWhatStoodAhead();
        copyOfAShelfOntoItself();
        copyOfLongsKeepsAllBits();
        showTheLastPull();
        showNothing();
        holdsEachSort();
        DUE.end();
    }

    /** Promise 1: 20 TEETH, no PULLS; SHELVES hold NOTHING. */
    private static void aNewObjectHoldsNothing() {
        TheLiningsInIt x = new TheLiningsInIt();
        DUE.is("TEETH", x.status(1), 20);
        DUE.is("PULLS", x.status(0), 0);
        for (int s = 0; s < 8; s++) {
            DUE.is("holds(" + s + ")", x.holds(s), TheLiningsInIt.NONE);
            DUE.is("element(" + s + ", 0)", x.element(s, 0), 0);
            DUE.is("set(" + s + ", 0, 1)", x.set(s, 0, 1), -3);
        }
        DUE.is("pullOf(0, 0)", x.pullOf(0, 0), -5);
        DUE.is("pulls(0)", x.pulls(0), -1);
        DUE.is("lack(19, false)", x.lack(19, false), 0);
        DUE.is("lack(20, false)", x.lack(20, false), -1);
    }

    /** SHELVES 0 to 7. */
    private static void theFirstAndTheLastShelf() {
        TheLiningsInIt x = new TheLiningsInIt();
        DUE.is("row(0, 0, 1)", x.row(0, 0, 1), 1);
        DUE.is("row(7, 0, 1)", x.row(7, 0, 1), 1);
        DUE.is("row(8, 0, 1)", x.row(8, 0, 1), -1);
        DUE.is("row(-1, 0, 1)", x.row(-1, 0, 1), -1);
        x.set(0, 0, 5);
        x.set(7, 0, 6);
        DUE.is("element(0, 0)", x.element(0, 0), 5);
        DUE.is("element(7, 0)", x.element(7, 0), 6);
        DUE.is("copy(0, 7, 0, 0, 1)", x.copy(0, 7, 0, 0, 1), 1);
        DUE.is("copied", x.element(7, 0), 5);
    }

    /** 0 to 160 elements. */
    private static void rowsOfNoneAndOf160() {
        TheLiningsInIt x = new TheLiningsInIt();
        for (int sort = 0; sort < 4; sort++) {
            DUE.is("row of none", x.row(0, sort, 0), 1);
            DUE.is("holds it", x.holds(0), 100 + sort);
            DUE.is("its first", x.set(0, 0, 1), -5);
            DUE.is("row of 160", x.row(1, sort, 160), 1);
            DUE.is("its last", x.set(1, 159, 1), 1);
            DUE.is("behind its last", x.set(1, 160, 1), -5);
            DUE.is("row of 161", x.row(2, sort, 161), -7);
            DUE.is("which isn't held", x.holds(2), -1);
        }
        DUE.is("sort -1", x.row(2, -1, 0), -6);
        DUE.is("sort 4", x.row(2, 4, 0), -6);
    }

    /** Elements 0 at first. */
    private static void elementsAreNoughtAtFirst() {
        TheLiningsInIt x = new TheLiningsInIt();
        x.row(3, 3, 160);
        for (int i = 0; i < 160; i++) {
            DUE.is("element " + i, x.element(3, i), 0);
        }
    }

    /** SHELF s holds a new ROW, whatever it held. */
    private static void aNewRowForgetsTheOldOne() {
        TheLiningsInIt x = new TheLiningsInIt();
        x.row(3, 3, 160);
        for (int i = 0; i < 160; i++) {
            x.set(3, i, -1L - i);
        }
        DUE.is("a row anew", x.row(3, 3, 160), 1);
        for (int i = 0; i < 160; i += 3) {
            DUE.is("element " + i + " anew", x.element(3, i), 0);
        }
        x.set(3, 5, 5);
        x.row(3, 0, 2);
        DUE.is("an element that is no more", x.element(3, 5), 0);
        x.row(3, 0, 9);
        DUE.is("nor comes back", x.element(3, 5), 0);
        x.pull(0, 0, 1);
        x.show(3, 0);
        DUE.is("a row where a PULL was", x.row(3, 1, 3), 1);
        DUE.is("holds a row", x.holds(3), 101);
        DUE.is("a row is refused", x.row(3, 1, -1), -4);
        DUE.is("holds the row still", x.holds(3), 101);
    }

    private static void put(TheLiningsInIt x, int sort, long v, long due) {
        x.row(6, sort, 3);
        DUE.is("set of " + v, x.set(6, 1, v), 1);
        DUE.is("sort " + sort + " keeps of " + v, x.element(6, 1), due);
        DUE.is("what is ahead", x.element(6, 0), 0);
        DUE.is("what is behind", x.element(6, 2), 0);
    }

    /** What is put in keeps its lowest bits. */
    private static void lowestBitsAreKept() {
        TheLiningsInIt x = new TheLiningsInIt();
        put(x, 0, 127, 127);
        put(x, 0, 128, -128);
        put(x, 0, -128, -128);
        put(x, 0, -129, 127);
        put(x, 0, 256, 0);
        put(x, 0, Long.MAX_VALUE, -1);
        put(x, 0, Long.MIN_VALUE, 0);
        put(x, 1, 32767, 32767);
        put(x, 1, 32768, -32768);
        put(x, 1, -32769, 32767);
        put(x, 1, 65536, 0);
        put(x, 1, 128, 128);
        put(x, 2, 2147483647L, 2147483647L);
        put(x, 2, 2147483648L, -2147483648L);
        put(x, 2, -2147483649L, 2147483647L);
        put(x, 2, 4294967296L, 0);
        put(x, 3, 4294967296L, 4294967296L);
        put(x, 3, Long.MAX_VALUE, Long.MAX_VALUE);
        put(x, 3, Long.MIN_VALUE, Long.MIN_VALUE);
    }

    /** Promises 3 and 5: an element that isn't there. */
    private static void elementsFirstAndLast() {
        TheLiningsInIt x = new TheLiningsInIt();
        x.row(2, 1, 3);
        DUE.is("the first", x.set(2, 0, 7), 1);
        DUE.is("the last", x.set(2, 2, 9), 1);
        DUE.is("below the first", x.set(2, -1, 9), -5);
        DUE.is("behind the last", x.set(2, 3, 9), -5);
        DUE.is("element(2, 0)", x.element(2, 0), 7);
        DUE.is("element(2, 2)", x.element(2, 2), 9);
        DUE.is("element(2, -1)", x.element(2, -1), 0);
        DUE.is("element(2, 3)", x.element(2, 3), 0);
        DUE.is("only the two were refused", x.status(15), 2);
    }

    /** Promise 4: n of 0, at every place that is there and at the end. */
    private static void copyOfNone() {
        TheLiningsInIt x = new TheLiningsInIt();
        Due.ints(x, 0, 1, 2, 3);
        Due.ints(x, 1, 7, 8);
        x.row(2, 2, 0);
        DUE.is("none from the first", x.copy(0, 1, 0, 0, 0), 1);
        DUE.is("none from the end to the end", x.copy(0, 1, 3, 2, 0), 1);
        DUE.is("none from behind the end", x.copy(0, 1, 4, 2, 0), -5);
        DUE.is("none to behind the end", x.copy(0, 1, 3, 3, 0), -5);
        DUE.is("none of an empty ROW", x.copy(2, 2, 0, 0, 0), 1);
        DUE.is("none of an empty ROW from 1", x.copy(2, 0, 1, 0, 0), -5);
        DUE.is("nothing came", x.element(1, 0), 7);
    }

    private static void copyOfAll() {
        TheLiningsInIt x = new TheLiningsInIt();
        x.row(0, 0, 160);
        x.row(1, 0, 160);
        for (int i = 0; i < 160; i++) {
            x.set(0, i, i - 80);
        }
        DUE.is("all", x.copy(0, 1, 0, 0, 160), 1);
        DUE.is("one more", x.copy(0, 1, 0, 0, 161), -5);
        DUE.is("all, one further", x.copy(0, 1, 0, 1, 160), -5);
        DUE.is("all, from the second", x.copy(0, 1, 1, 0, 160), -5);
        DUE.is("the last alone", x.copy(0, 1, 159, 0, 1), 1);
        DUE.is("the last", x.element(1, 159), 79);
        DUE.is("the first", x.element(1, 0), 79);
        DUE.is("the second", x.element(1, 1), -79);
    }

    /** "As they were ahead": within one ROW, either way. */
    private static void copyOverItselfTakesWhatStoodAhead() {
        TheLiningsInIt x = new TheLiningsInIt();
        int[] forth = {1, 2, 1, 2, 3, 4, 5};
        int[] back = {3, 4, 5, 6, 7, 6, 7};
        Due.ints(x, 0, 1, 2, 3, 4, 5, 6, 7);
        DUE.is("forth", x.copy(0, 0, 0, 2, 5), 1);
        for (int i = 0; i < 7; i++) {
            DUE.is("forth " + i, x.element(0, i), forth[i]);
        }
        Due.ints(x, 0, 1, 2, 3, 4, 5, 6, 7);
        DUE.is("back", x.copy(0, 0, 2, 0, 5), 1);
        for (int i = 0; i < 7; i++) {
            DUE.is("back " + i, x.element(0, i), back[i]);
        }
    }

    private static void copyOfAShelfOntoItself() {
        TheLiningsInIt x = new TheLiningsInIt();
        x.pull(0, 0, 1);
        DUE.is("NOTHING", x.copy(4, 4, 0, 0, 0), -3);
        x.show(4, 0);
        DUE.is("a PULL", x.copy(4, 4, 0, 0, 0), -2);
        x.row(4, 1, 0);
        DUE.is("an empty ROW", x.copy(4, 4, 0, 0, 0), 1);
    }

    private static void copyOfLongsKeepsAllBits() {
        TheLiningsInIt x = new TheLiningsInIt();
        x.row(0, 3, 1);
        x.row(1, 3, 1);
        x.set(0, 0, Long.MIN_VALUE + 3);
        x.copy(0, 1, 0, 0, 1);
        DUE.is("the copy", x.element(1, 0), Long.MIN_VALUE + 3);
        x.set(0, 0, 4);
        DUE.is("is another one", x.element(1, 0), Long.MIN_VALUE + 3);
    }

    /** Promise 6: PULLS there are. */
    private static void showTheLastPull() {
        TheLiningsInIt x = new TheLiningsInIt();
        DUE.is("none is there", x.show(0, 0), -1);
        for (int p = 0; p < 8; p++) {
            x.pull(0, 0, 1);
            DUE.is("the last", x.show(p, p), 1);
            DUE.is("one more", x.show(p, p + 1), -1);
            DUE.is("holds(" + p + ")", x.holds(p), p);
        }
        DUE.is("two SHELVES of one PULL", x.show(0, 7), 1);
        DUE.is("holds(0)", x.holds(0), 7);
        DUE.is("holds(7)", x.holds(7), 7);
    }

    /** Promise 6: NOTHING (pull NONE): 0. */
    private static void showNothing() {
        TheLiningsInIt x = new TheLiningsInIt();
        DUE.is("NOTHING where it is", x.show(5, -1), 0);
        x.pull(0, 0, 1);
        x.show(5, 0);
        DUE.is("NOTHING for a PULL", x.show(5, -1), 0);
        DUE.is("holds(5)", x.holds(5), -1);
        x.row(5, 2, 2);
        x.set(5, 0, 9);
        DUE.is("NOTHING for a ROW", x.show(5, -1), 0);
        DUE.is("holds(5)", x.holds(5), -1);
        DUE.is("element(5, 0)", x.element(5, 0), 0);
        DUE.is("below NONE", x.show(5, -2), -1);
    }

    /** Promise 7: 100 and the SORT of a ROW. */
    private static void holdsEachSort() {
        TheLiningsInIt x = new TheLiningsInIt();
        for (int sort = 0; sort < 4; sort++) {
            x.row(sort, sort, sort);
        }
        for (int sort = 0; sort < 4; sort++) {
            DUE.is("holds(" + sort + ")", x.holds(sort), 100 + sort);
        }
        DUE.is("holds(-1)", x.holds(-1), -1);
        DUE.is("holds(8)", x.holds(8), -1);
        DUE.is("holds(MIN)", x.holds(Integer.MIN_VALUE), -1);
        DUE.is("nothing is refused", x.status(11), 0);
    }
}
