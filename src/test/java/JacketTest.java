import java.util.Random;

/** Promises 15 and 16: jackets read from texts, and their faults. */
public final class JacketTest {
    private static final Due DUE = new Due("JacketTest");

    public static void main(String[] args) {
        everyItem();
        toldOverWhatThereIs();
        faults();
        numbersThatMayNotBe();
        room();
        nothingIsTold();
        sorts();
        refused();
        longest();
        cutTexts();
        DUE.end();
    }

    private static int read(TheLiningsInIt x, String text) {
        Due.text(x, 0, text);
        return x.jacket(0);
    }

    /** A text told to a new object: how many items, or the fault, lower than -100. */
    private static int tell(String text) {
        TheLiningsInIt x = new TheLiningsInIt();
        int items = read(x, text);
        return items == -6 ? -100 - x.fault() : x.fault() == -1 ? items : -99;
    }

    private static void everyItem() {
        TheLiningsInIt x = new TheLiningsInIt();
        DUE.is("every item", read(x, "teeth 030;lack 4;slack 5 9;pull 6 7 60;depth 24;seconds 300;"
                + "hurry 9;gap 1;cost 0 1;cost 1 2;cost 2 99;at 30"), 12);
        DUE.is("no fault", x.fault(), -1);
        int[] due = {1, 30, 30, 24, 0, 300, 9, 1};
        for (int what = 0; what < due.length; what++) {
            DUE.is("status(" + what + ")", x.status(what), due[what]);
        }
        DUE.is("lack", x.lack(4, true), 1);
        DUE.is("slack", x.slack(5, 9), 9);
        DUE.is("kind", x.pullOf(0, 0), 6);
        DUE.is("a", x.pullOf(0, 1), 7);
        DUE.is("takes", x.pullOf(0, 2), 60);
        DUE.is("cost 0", x.ask(4, 0), 1);
        DUE.is("cost 1", x.ask(5, 0), 2);
        DUE.is("cost 2", x.ask(6, 0), 99);
    }

    private static void toldOverWhatThereIs() {
        TheLiningsInIt x = new TheLiningsInIt();
        x.lack(3, true);
        x.pull(0, 0, 1);
        x.ask(2, 4);
        DUE.is("two items", read(x, "lack 5;pull 1 2 3"), 2);
        DUE.is("lacking", x.strong(3), 2);
        DUE.is("pulls", x.status(0), 2);
        DUE.is("hurry", x.status(6), 4);
        x.slack(9, 9);
        x.ask(7, 20);
        DUE.is("teeth anew", read(x, "teeth 20"), 1);
        DUE.is("all there", x.strong(3), 0);
        DUE.is("no slack", x.catches(-1), 0);
        DUE.is("AT 0", x.status(2), 0);
        DUE.is("teeth ahead of a tooth", tell("teeth 40;lack 39;at 40"), 3);
        DUE.is("teeth behind a tooth", tell("lack 19;teeth 10;lack 10"), -100 - 22);
        DUE.is("fewer teeth", tell("teeth 4;at 5"), -100 - 11);
        DUE.is("fewer teeth for slack", tell("teeth 4;slack 4 1"), -100 - 14);
    }

    private static void faults() {
        Object[][] texts = {
            {"", 0}, {" ", 0}, {";", 0}, {"x", 0}, {"T", 0}, {"t", 1}, {"te", 2}, {"tx", 1}, {"teeth", 5},
            {"teeths", 5}, {"teeth4", 5}, {"teeth ", 6}, {"teeth  4", 6}, {"teeth x", 6}, {"teeth -4", 6},
            {"teeth 4 ", 7}, {"teeth 4x", 7}, {"teeth 4;", 8}, {"teeth 4; at 1", 8}, {"teeth 4 ;at 1", 7},
            {"teeth 4;;", 8}, {"teeth 0040", 9}, {"teeth 40 1", 8}, {"s", 1}, {"sx", 1}, {"sl", 2},
            {"sex", 2}, {"slc", 2}, {"slack", 5}, {"slack 1", 7}, {"slack 1;", 7}, {"slack 1 ", 8},
            {"slack 1 1 1", 9}, {"lack 1,", 6}, {"pull 0 0", 8}, {"pull 0 0 ", 9}, {"pull 0 0 1 ", 10},
            {"depth 1\n", 7}, {"seconds 0001", 11}, {"seconds 3000", 11}, {"cost 0", 6}, {"cost 0 ", 7},
            {"cost 1 2 3", 8}, {"at", 2}, {"a 1", 1}, {"gap 1;gap 1;gxp 1", 13}, {"hurry\t1", 5},
            {"teeth 4at 1", 7}, {"teeth 4tx", 7}, {"teeth 40at 1", 8}, {"teeth 004at 1", 9}, {"gap 1gap 2", 5},
            {"d", 1}, {"depth", 5}, {"c", 1}, {"h", 1}, {"at 1;t", 6},
        };
        for (Object[] text : texts) {
            DUE.is("'" + text[0] + "'", tell((String) text[0]), -100 - (Integer) text[1]);
        }
    }

    private static void numbersThatMayNotBe() {
        String[] good = {"teeth 4", "teeth 40", "lack 0", "lack 19", "slack 19 0", "slack 0 9", "pull 0 0 1",
            "pull 6 9 60", "depth 0", "depth 24", "seconds 0", "seconds 300", "hurry 0", "hurry 9", "gap 1",
            "gap 9", "cost 0 0", "cost 2 99", "at 0", "at 20", "at 020", "lack 000"};
        for (String text : good) {
            DUE.is("'" + text + "'", tell(text), 1);
        }
        Object[][] bad = {
            {"teeth 3", 6}, {"teeth 41", 6}, {"teeth 0", 6}, {"teeth 3x", 6}, {"teeth 4111", 6},
            {"lack 20", 5}, {"slack 20 0", 6}, {"slack 0 10", 8}, {"slack 20 x", 6}, {"pull 7 0 1", 5},
            {"pull 0 10 1", 7}, {"pull 0 0 0", 9}, {"pull 0 0 61", 9}, {"pull 10 0 61", 5}, {"depth 25", 6},
            {"depth 025", 6}, {"seconds 301", 8}, {"seconds 999", 8}, {"hurry 10", 6}, {"gap 0", 4},
            {"gap 10", 4}, {"cost 3 0", 5}, {"cost 0 100", 7}, {"at 21", 3}, {"gap 1;gap 0;x", 10},
        };
        for (Object[] text : bad) {
            DUE.is("'" + text[0] + "'", tell((String) text[0]), -100 - (Integer) text[1]);
        }
    }

    private static void room() {
        TheLiningsInIt x = new TheLiningsInIt();
        for (int p = 0; p < 6; p++) {
            x.pull(0, 0, 1);
        }
        DUE.is("no room for the third", read(x, "pull 0 0 1;pull 0 0 1;pull 0 0 1"), -6);
        DUE.is("the fault is its word", x.fault(), 22);
        DUE.is("none was told", x.status(0), 6);
        DUE.is("room for two", read(x, "pull 0 0 1;pull 5 0 1"), 2);
        DUE.is("pulls", x.status(0), 8);
        String[] texts = {"p", "pu", "pul", "pulx", "put", "pull", "pull ", "pullx", "pull 9", "pull 0 0 1",
            "gap 1;pull", "gap 1;pul"};
        int[] due = {1, 2, 3, 3, 2, 0, 0, 0, 0, 0, 6, 9};
        for (int i = 0; i < texts.length; i++) {
            DUE.is("without room '" + texts[i] + "'", read(x, texts[i]), -6);
            DUE.is("its fault", x.fault(), due[i]);
        }
        DUE.is("no word but that needs room", read(x, "teeth 4;gap 2"), 2);
    }

    private static void nothingIsTold() {
        TheLiningsInIt x = new TheLiningsInIt();
        x.slack(2, 2);
        x.ask(7, 3);
        DUE.is("a fault at the end", read(x, "teeth 9;lack 1;pull 0 0 1;depth 3;seconds 4;hurry 5;gap 6;"
                + "cost 0 7;at 1;at 10"), -6);
        int[] due = {0, 20, 3, 0, 0, 60, 0, 3, 1};
        for (int what = 0; what < due.length; what++) {
            DUE.is("status(" + what + ")", x.status(what), due[what]);
        }
        DUE.is("slack", x.slack(2, 2), 2);
        DUE.is("cost", x.ask(4, 5), 5);
    }

    private static void sorts() {
        for (int sort = 0; sort < 4; sort++) {
            TheLiningsInIt x = new TheLiningsInIt();
            x.row(1, sort, 6);
            String text = "gap 07";
            for (int i = 0; i < 6; i++) {
                x.set(1, i, text.charAt(i) + (sort == 3 ? 5L << 32 : 0));
            }
            DUE.is("a text of sort " + sort, x.jacket(1), 1);
            DUE.is("its gap", x.status(7), 7);
            x.set(1, 2, text.charAt(2) + (sort == 0 ? 128 : 256));
            DUE.is("another sign", x.jacket(1), -6);
            DUE.is("its place", x.fault(), 2);
        }
    }

    private static void refused() {
        TheLiningsInIt x = new TheLiningsInIt();
        DUE.is("none yet", x.fault(), -1);
        read(x, "x");
        DUE.is("a fault", x.fault(), 0);
        x.pull(0, 0, 1);
        x.show(2, 0);
        DUE.is("jacket(8)", x.jacket(8), -1);
        DUE.is("jacket(-1)", x.jacket(-1), -1);
        DUE.is("jacket(2) of a pull", x.jacket(2), -2);
        DUE.is("jacket(3) of nothing", x.jacket(3), -3);
        DUE.is("the fault is still the latest", x.fault(), 0);
        DUE.is("one without", read(x, "gap 5"), 1);
        DUE.is("no fault", x.fault(), -1);
        DUE.is("status(16)", x.status(16), 1);
    }

    private static void longest() {
        StringBuilder text = new StringBuilder("at 0");
        for (int i = 1; i < 32; i++) {
            text.append(";at ").append(i % 10);
        }
        TheLiningsInIt x = new TheLiningsInIt();
        DUE.is("as many items as there may be", read(x, text.toString()), 32);
        DUE.is("the last one", x.status(2), 1);
        DUE.is("an end too early", read(x, text + ";"), -6);
        DUE.is("its place", x.fault(), 160);
        DUE.is("what was told ahead stays", x.status(2), 1);
        text.insert(3, '0');
        DUE.is("as long as may be", tell(text.toString()), 32);
        text.setCharAt(159, ';');
        DUE.is("a number that isn't there", tell(text.toString()), -100 - 159);
    }

    /** A text cut short is at fault at its end, or at the number that may not be as it stands. */
    private static void cutTexts() {
        Random random = new Random(8);
        String[] items = {"teeth 4", "teeth 005", "lack 3", "slack 2 9", "depth 7", "seconds 9", "hurry 8",
            "gap 7", "cost 2 6", "at 4"};
        for (int round = 0; round < 300; round++) {
            StringBuilder text = new StringBuilder(items[random.nextInt(2)]);
            for (int more = random.nextInt(5); more > 0; more--) {
                text.append(';').append(items[random.nextInt(items.length)]);
            }
            int cut = random.nextInt(text.length());
            char last = cut == 0 ? ';' : text.charAt(cut - 1);
            if (last < '0' || last > '9') {
                DUE.is("'" + text.substring(0, cut) + "'", tell(text.substring(0, cut)), -100 - cut);
                DUE.is("and another sign", tell(text.substring(0, cut) + "!"), -100 - cut);
            }
        }
    }
}
