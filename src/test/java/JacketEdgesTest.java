/** Promises 15 and 16, "A JACKET" of the Terms: each edge that a sentence names. */
public final class JacketEdgesTest {
    private static final Due DUE = new Due("JacketEdgesTest");

    /** Every item once; each number's digits may be, as far as they go. */
    private static final String ALL = "teeth 30;lack 4;slack 5 9;pull 6 7 55;depth 24;seconds 30;"
            + "hurry 9;gap 1;cost 0 1;cost 2 99;at 30";

    public static void main(String[] args) {
        oneItem();
        howManyItems();
        everyPlaceCut();
        everyPlaceSpoilt();
        emptyAndNothing();
        numbersOfOneToThreeDigits();
        numbersBesideTheirBounds();
        numbersByWhatIsToldAhead();
        lettersAreLettersOnly();
        teethForgetWhatWasToldAhead();
        toldOverWhatThereIs();
        allOrNothing();
        roomForTheEighth();
        noRoomForTheNinth();
        roomIsAskedOfTheWholeWord();
        elementsOfEachSort();
        faultOfTheLatest();
        faultIsNoPartOfTheImage();
        fullRows();
        DUE.end();
    }

    private static int read(TheLiningsInIt x, String text) {
        Due.text(x, 0, text);
        return x.jacket(0);
    }

    private static void fault(String text, int due) {
        TheLiningsInIt x = new TheLiningsInIt();
        DUE.is("'" + text + "'", read(x, text), -6);
        DUE.is("FAULT of '" + text + "'", x.fault(), due);
        DUE.is("counted", x.status(16), 1);
    }

    private static void good(String text, int items) {
        TheLiningsInIt x = new TheLiningsInIt();
        DUE.is("'" + text + "'", read(x, text), items);
        DUE.is("no FAULT of '" + text + "'", x.fault(), -1);
    }

    /** ITEM: each of its words. */
    private static void oneItem() {
        String[] items = {"teeth 4", "lack 0", "slack 0 0", "pull 0 0 1", "depth 0", "seconds 0", "hurry 0",
            "gap 1", "cost 0 0", "at 0"};
        for (String item : items) {
            good(item, 1);
            fault(item + ";", item.length() + 1);
            fault(";" + item, 0);
            fault(" " + item, 0);
            fault(item + " ", item.length());
            fault(item + " 1", item.length());
            fault(item + "\n", item.length());
            fault(item + ".", item.length());
        }
    }

    /** Then any number of times ; and ITEM: how many ITEMS. */
    private static void howManyItems() {
        StringBuilder text = new StringBuilder("at 0");
        for (int items = 1; items <= 32; items++) {
            good(text.toString(), items);
            text.append(";at 0");
        }
        good(ALL, 11);
    }

    private static boolean digit(int i) {
        return i >= 0 && ALL.charAt(i) >= '0' && ALL.charAt(i) <= '9';
    }

    /** The number of elements, if it ends too early: else it may end there. */
    private static void everyPlaceCut() {
        for (int end = 0; end < ALL.length(); end++) {
            String text = ALL.substring(0, end);
            TheLiningsInIt x = new TheLiningsInIt();
            boolean may = digit(end - 1) && !text.endsWith("slack 5") && !text.endsWith("pull 6")
                    && !text.endsWith("pull 6 7") && !text.endsWith("cost 0") && !text.endsWith("cost 2");
            int read = read(x, text);
            DUE.is("whether '" + text + "' may be", read > 0 ? 1 : 0, text.endsWith("teeth 3") ? 0 : may ? 1 : 0);
            if (!may) {
                DUE.is("FAULT of '" + text + "'", x.fault(), end);
            }
        }
        fault("teeth 3", 6);
    }

    /** The first place at which an element can't stand. */
    private static void everyPlaceSpoilt() {
        for (int i = 0; i < ALL.length(); i++) {
            StringBuilder text = new StringBuilder(ALL);
            text.setCharAt(i, '!');
            // Of "teeth 30" the 3 alone may not be: the FAULT is at it then.
            fault(text.toString(), i == 7 ? 6 : i);
        }
    }

    private static void emptyAndNothing() {
        TheLiningsInIt x = new TheLiningsInIt();
        DUE.is("NOTHING", x.jacket(0), -3);
        DUE.is("it has no FAULT", x.fault(), -1);
        x.row(0, 0, 0);
        DUE.is("an empty ROW", x.jacket(0), -6);
        DUE.is("its FAULT", x.fault(), 0);
        x.row(0, 0, 1);
        DUE.is("a 0", x.jacket(0), -6);
        DUE.is("its FAULT", x.fault(), 0);
        x.set(0, 0, 'a');
        DUE.is("an a", x.jacket(0), -6);
        DUE.is("its FAULT", x.fault(), 1);
    }

    /** NUMBERS (1 to 3 digits), which may begin with 0. */
    private static void numbersOfOneToThreeDigits() {
        good("depth 7", 1);
        good("depth 07", 1);
        good("depth 007", 1);
        fault("depth 0007", 9);
        fault("depth ", 6);
        fault("depth", 5);
        fault("depth  7", 6);
        fault("depth7", 5);
        fault("depth -7", 6);
        fault("depth +7", 6);
        good("seconds 300", 1);
        fault("seconds 3000", 11);
        good("pull 000 000 001", 1);
        fault("pull 000 000 000", 13);
        fault("pull 000 0000 001", 12);
        good("slack 019 009", 1);
        good("cost 002 099", 1);
        good("cost 000 000", 1);
        good("gap 001", 1);
    }

    /** Of a NUMBER that may not be the place of its first digit. */
    private static void numbersBesideTheirBounds() {
        Object[][] bad = {{"teeth 3", 6}, {"teeth 003", 6}, {"teeth 41", 6}, {"teeth 999", 6}, {"lack 20", 5},
            {"slack 20 0", 6}, {"slack 0 10", 8}, {"pull 7 0 1", 5}, {"pull 0 10 1", 7}, {"pull 0 0 0", 9},
            {"pull 0 0 61", 9}, {"depth 25", 6}, {"seconds 301", 8}, {"hurry 10", 6}, {"gap 0", 4}, {"gap 10", 4},
            {"cost 3 0", 5}, {"cost 0 100", 7}, {"at 21", 3}};
        for (Object[] text : bad) {
            int place = (Integer) text[1];
            fault((String) text[0], place);
            fault(text[0] + ";", place);
            fault(text[0] + "x", place);
            fault("hurry 0;" + text[0] + ";at 0", 8 + place);
        }
        String[] most = {"teeth 40", "lack 19", "slack 19 9", "pull 6 9 60", "depth 24", "seconds 300", "hurry 9",
            "gap 9", "cost 2 99", "at 20"};
        for (String text : most) {
            good(text, 1);
        }
    }

    /** TEETH have numbers 0 to n less 1, AT is 0 to n: by the TEETH told ahead. */
    private static void numbersByWhatIsToldAhead() {
        good("teeth 40;lack 39;slack 39 9;at 40", 4);
        fault("teeth 40;lack 40", 14);
        fault("teeth 40;at 41", 12);
        fault("teeth 4;lack 4", 13);
        fault("teeth 4;slack 4 0", 14);
        fault("teeth 4;at 5", 11);
        good("teeth 4;at 4", 2);
        good("at 20;teeth 4", 2);
        good("lack 19;teeth 4;lack 3", 3);
        fault("lack 20;teeth 40", 5);
        TheLiningsInIt x = new TheLiningsInIt();
        x.teeth(40);
        DUE.is("by the TEETH there are", read(x, "lack 39;at 40"), 2);
        x.teeth(4);
        DUE.is("by the fewer there are", read(x, "lack 4"), -6);
    }

    private static void lettersAreLettersOnly() {
        fault("Teeth 4", 0);
        fault("tEeth 4", 1);
        fault("teeth\t4", 5);
        fault("lacks 4", 4);
        fault("slac", 4);
        fault("sl", 2);
        fault("s", 1);
        fault("sa", 1);
        fault("se", 2);
        fault("sla k", 3);
        fault("gap 1;;gap 1", 6);
        fault("gap 1; gap 1", 6);
        fault("gap 1,gap 1", 5);
        fault("gap 1gap 1", 5);
        fault("gap1", 3);
        fault("at 1 at 2", 4);
    }

    /** Teeth N: all there, no SLACK, AT 0 then. */
    private static void teethForgetWhatWasToldAhead() {
        TheLiningsInIt x = new TheLiningsInIt();
        DUE.is("items", read(x, "lack 3;slack 4 9;at 5;teeth 20;slack 6 8"), 5);
        DUE.is("LACKING", x.strong(3), 0);
        DUE.is("CATCHES", x.catches(-1), 1);
        DUE.is("the one told behind", x.catches(0), 6);
        DUE.is("AT", x.status(2), 0);
    }

    private static void toldOverWhatThereIs() {
        TheLiningsInIt x = new TheLiningsInIt();
        x.pull(1, 2, 3);
        x.lack(0, true);
        x.slack(1, 7);
        x.ask(1, 77);
        x.ask(5, 66);
        DUE.is("items", read(x, "pull 4 5 6;lack 2;slack 3 9;cost 0 9"), 4);
        DUE.is("PULLS", x.status(0), 2);
        DUE.is("the first", x.pullOf(0, 0), 1);
        DUE.is("the second", x.pullOf(1, 0), 4);
        DUE.is("LACKING", x.strong(3), 2);
        DUE.is("SLACK that was", x.slack(1, 7), 7);
        DUE.is("SECONDS", x.status(5), 77);
        DUE.is("COST of the HEAD", x.ask(5, 66), 66);
        DUE.is("COST of a tear", x.ask(4, 0), 9);
        DUE.is("one told twice", read(x, "gap 4;gap 5;lack 2;slack 3 1;slack 3 2"), 5);
        DUE.is("the latter GAP", x.status(7), 5);
        DUE.is("the latter SLACK", x.slack(3, 0), 2);
    }

    /** All is told, or nothing. */
    private static void allOrNothing() {
        TheLiningsInIt x = new TheLiningsInIt();
        x.lack(1, true);
        x.slack(2, 2);
        x.ask(7, 3);
        DUE.is("at fault in the last place", read(x, ALL + "x"), -6);
        DUE.is("its FAULT", x.fault(), ALL.length());
        int[] due = {0, 20, 3, 0, 0, 60, 0, 3, 1};
        for (int what = 0; what < due.length; what++) {
            DUE.is("status(" + what + ")", x.status(what), due[what]);
        }
        int[] costs = {5, 10, 50};
        for (int cost = 0; cost < 3; cost++) {
            DUE.is("COST " + cost, x.ask(4 + cost, 0), costs[cost]);
        }
        DUE.is("LACKING", x.lack(1, true), 1);
        DUE.is("SLACK", x.slack(2, 0), 2);
    }

    private static TheLiningsInIt withPulls(int count) {
        TheLiningsInIt x = new TheLiningsInIt();
        for (int p = 0; p < count; p++) {
            x.pull(0, 0, 1);
        }
        return x;
    }

    private static void roomForTheEighth() {
        TheLiningsInIt x = withPulls(7);
        DUE.is("the eighth", read(x, "pull 6 9 60"), 1);
        DUE.is("PULLS", x.status(0), 8);
        DUE.is("its KIND", x.pullOf(7, 0), 6);
        TheLiningsInIt y = withPulls(0);
        String eight = "pull 0 0 1;pull 0 0 1;pull 0 0 1;pull 0 0 1;pull 0 0 1;pull 0 0 1;pull 0 0 1;pull 0 0 1";
        DUE.is("all eight", read(y, eight), 8);
        TheLiningsInIt z = withPulls(0);
        DUE.is("nine", read(z, eight + ";pull 0 0 1"), -6);
        DUE.is("the FAULT is its word", z.fault(), 88);
        DUE.is("none was told", z.status(0), 0);
    }

    /** What there is no room for can't stand: its word. */
    private static void noRoomForTheNinth() {
        TheLiningsInIt x = withPulls(7);
        DUE.is("two more", read(x, "pull 0 0 1;pull 0 0 1"), -6);
        DUE.is("the FAULT is the second's word", x.fault(), 11);
        DUE.is("nor was the first told", x.status(0), 7);
        DUE.is("refused as WRONG", x.status(16), 1);
        DUE.is("not for ROOM", x.status(17), 0);
        DUE.is("an earlier FAULT comes first", read(x, "pull 0 10 1;pull 0 0 1"), -6);
        DUE.is("it is", x.fault(), 7);
    }

    /** Whether there is room is asked when its letters stand whole. */
    private static void roomIsAskedOfTheWholeWord() {
        String[] texts = {"p", "pu", "pul", "pull", "pull ", "pull 9", "pullx", "pulx", "pu ll", "gap 2;pul",
            "gap 2;pull", "gap 2;pule 1 1 1"};
        int[] due = {1, 2, 3, 0, 0, 0, 0, 3, 2, 9, 6, 9};
        for (int i = 0; i < texts.length; i++) {
            TheLiningsInIt x = withPulls(8);
            DUE.is("'" + texts[i] + "'", read(x, texts[i]), -6);
            DUE.is("FAULT of '" + texts[i] + "'", x.fault(), due[i]);
            DUE.is("GAP", x.status(7), 3);
        }
        TheLiningsInIt x = withPulls(8);
        DUE.is("what needs no room", read(x, "gap 2;lack 1;teeth 4"), 3);
    }

    /** Elements of a ROW of longs count by their lowest 32 bits, others as they are. */
    private static void elementsOfEachSort() {
        for (int sort = 0; sort < 4; sort++) {
            TheLiningsInIt x = new TheLiningsInIt();
            x.row(0, sort, 4);
            String text = "at 7";
            for (int i = 0; i < 4; i++) {
                x.set(0, i, text.charAt(i) + (1L << 32) * (i + 1));
            }
            DUE.is("sort " + sort, x.jacket(0), 1);
            DUE.is("AT", x.status(2), 7);
            x.set(0, 3, sort == 0 ? '7' + 128 : '7' + 256);
            DUE.is("no letter, sort " + sort, x.jacket(0), -6);
            DUE.is("its FAULT", x.fault(), 3);
            x.set(0, 3, -1);
            DUE.is("-1, sort " + sort, x.jacket(0), -6);
            DUE.is("its FAULT", x.fault(), 3);
        }
    }

    /** Promise 16: of the latest jacket() that came to a ROW. */
    private static void faultOfTheLatest() {
        TheLiningsInIt x = new TheLiningsInIt();
        DUE.is("none yet", x.fault(), -1);
        read(x, "gap 0");
        DUE.is("one", x.fault(), 4);
        x.show(1, -1);
        x.jacket(1);
        DUE.is("NOTHING has none", x.fault(), 4);
        x.jacket(8);
        DUE.is("nor has no SHELF", x.fault(), 4);
        x.pull(0, 0, 1);
        x.show(1, 0);
        x.jacket(1);
        DUE.is("nor has a PULL", x.fault(), 4);
        read(x, "gap 1");
        DUE.is("there was none", x.fault(), -1);
        read(x, "gap 1;");
        DUE.is("one again", x.fault(), 6);
    }

    private static void faultIsNoPartOfTheImage() {
        TheLiningsInIt x = new TheLiningsInIt();
        x.image();
        read(x, "gap");
        x.restore();
        DUE.is("it stays", x.fault(), 3);
    }

    /** A ROW of 160 elements. */
    private static void fullRows() {
        StringBuilder text = new StringBuilder("at 00");
        for (int i = 1; i < 31; i++) {
            text.append(";at 0");
        }
        text.append(";at ");
        DUE.is("its length", text.length(), 159);
        fault(text.toString(), 159);
        good(text + "9", 32);
        fault(text + ";", 159);
        text.setLength(155);
        fault(text + ";teet", 160);
        fault(text + ";teex", 159);
    }
}
