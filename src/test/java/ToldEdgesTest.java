/** Promises 27 and 28, told rows of section 3: each edge that a sentence names. */
public final class ToldEdgesTest {
    private static final Due DUE = new Due("ToldEdgesTest");

    public static void main(String[] args) {
        judgeOfNone();
        judgeOfTwenty();
        judgeOfWhatIsNone();
        judgeByDepth();
        judgeBySeconds();
        judgeBySixOfTwelve();
        judgeByHowDeepItGets();
        judgeOfEachSort();
        judgeChangesNothing();
        meantFromOneToTwenty();
        meantByDepths();
        meantAsideOfSeconds();
        meantAtDepthNought();
        meantByNoneOfTwelve();
        meantByTwelveOfTwelve();
        meantAtTheDeepest();
        aMillionAtMost();
        theFirstOfSeveral();
        noSuchI();
        noneOfAWholeRow();
        meantOfEachSort();
        DUE.end();
    }

    private static TheLiningsInIt at(int depth, int... pulls) {
        TheLiningsInIt x = new TheLiningsInIt();
        for (int i = 0; i + 2 < pulls.length; i += 3) {
            x.pull(pulls[i], pulls[i + 1], pulls[i + 2]);
        }
        x.ask(0, depth);
        return x;
    }

    /** The first n elements (0 to 20). */
    private static void judgeOfNone() {
        TheLiningsInIt x = at(0);
        x.row(0, 0, 0);
        DUE.is("none of an empty ROW, without PULLS", x.judge(0, 0), -1);
        DUE.is("one of an empty ROW", x.judge(0, 1), -15);
        x.row(0, 0, 1);
        DUE.is("none of one", x.judge(0, 0), -1);
        DUE.is("one", x.judge(0, 1), 0);
        DUE.is("below none", x.judge(0, -1), -14);
    }

    private static void judgeOfTwenty() {
        TheLiningsInIt x = at(24, 1, 0, 1);
        x.row(0, 0, 21);
        DUE.is("20 that never free", x.judge(0, 20), -1);
        DUE.is("21", x.judge(0, 21), -16);
        x.set(0, 20, 5);
        DUE.is("20 once more", x.judge(0, 20), -1);
        x.set(0, 19, 1);
        DUE.is("the last is WRONG", x.judge(0, 20), 19);
        DUE.is("ahead of it none is", x.judge(0, 19), -1);
        x.row(0, 0, 19);
        DUE.is("20 of 19", x.judge(0, 20), -15);
        DUE.is("21 of 19", x.judge(0, 21), -15);
    }

    /** The first that is none. */
    private static void judgeOfWhatIsNone() {
        TheLiningsInIt x = at(24, 1, 0, 1, 1, 0, 1);
        int[] none = {2, -1, 100, Integer.MAX_VALUE, Integer.MIN_VALUE};
        for (int told : none) {
            Due.ints(x, 0, 1, 0, told, told);
            DUE.is(told + " is none", x.judge(0, 4), 2);
            DUE.is("ahead of it none is WRONG", x.judge(0, 2), -1);
        }
    }

    /** The first that MAY not be then: DEPTH is 0. */
    private static void judgeByDepth() {
        TheLiningsInIt x = at(2, 1, 0, 1, 5, 0, 1);
        Due.ints(x, 0, 0, 0, 0);
        DUE.is("two free it", x.judge(0, 3), 2);
        Due.ints(x, 0, 1, 0);
        DUE.is("a TEAR frees it", x.judge(0, 2), 1);
        x.ask(0, 0);
        DUE.is("it's free at first", x.judge(0, 1), 0);
    }

    private static void judgeBySeconds() {
        TheLiningsInIt x = at(24, 1, 0, 30, 1, 0, 1);
        Due.ints(x, 0, 0, 0, 1);
        DUE.is("no SECONDS are left", x.judge(0, 3), 2);
        x.ask(1, 61);
        DUE.is("one is left", x.judge(0, 3), -1);
        x.ask(1, 59);
        DUE.is("one too few", x.judge(0, 3), 1);
        x.ask(1, 29);
        DUE.is("too few at first", x.judge(0, 3), 0);
    }

    /** If each FREES by which it FREES 6 of 12 at least, and no other. */
    private static void judgeBySixOfTwelve() {
        TheLiningsInIt x = at(3, 0, 0, 1);
        Due.ints(x, 0, 0, 0, 0, 0);
        DUE.is("6 of 12 free it", x.judge(0, 4), 3);
        x.ask(0, 4);
        DUE.is("5 of 12 never do", x.judge(0, 4), -1);
        x.ask(0, 3);
        x.ask(2, 3);
        DUE.is("5 of 12 by HURRY never do", x.judge(0, 4), -1);
        x.ask(2, 2);
        DUE.is("6 of 12 by HURRY do", x.judge(0, 4), 3);
    }

    /** What doesn't free makes it deeper, 24 at most; what it does then is by that DEPTH. */
    private static void judgeByHowDeepItGets() {
        TheLiningsInIt x = at(7, 4, 0, 1, 0, 0, 1);
        x.ask(2, 6);
        Due.ints(x, 0, 0, 0, 0, 0);
        x.ask(0, 5);
        DUE.is("SLANT frees from 5 by 2, 2, 2", x.judge(0, 4), 3);
        Due.ints(x, 0, 1, 0, 0, 0, 0);
        DUE.is("behind a PULL it is at 6, where SLANT never frees", x.judge(0, 5), -1);
        x.ask(0, 24);
        Due.ints(x, 1, 1, 1, 1, 1);
        DUE.is("no deeper than 24", x.judge(1, 4), -1);
    }

    private static void judgeOfEachSort() {
        for (int sort = 0; sort < 4; sort++) {
            TheLiningsInIt x = at(24, 1, 0, 1, 1, 0, 1);
            x.row(0, sort, 2);
            x.set(0, 1, 1 + (1L << 32));
            DUE.is("sort " + sort, x.judge(0, 2), -1);
            x.set(0, 0, -1);
            DUE.is("-1 of sort " + sort, x.judge(0, 2), 0);
        }
    }

    private static void judgeChangesNothing() {
        TheLiningsInIt x = at(9, 5, 0, 1, 0, 0, 1);
        Due.ints(x, 0, 0, 1, 0);
        x.judge(0, 3);
        int[] due = {2, 20, 0, 9, 0, 60, 0, 3, 1};
        for (int what = 0; what < due.length; what++) {
            DUE.is("status(" + what + ")", x.status(what), due[what]);
        }
    }

    /** n 1 to 20. */
    private static void meantFromOneToTwenty() {
        TheLiningsInIt x = at(5, 1, 0, 1);
        x.row(0, 0, 21);
        for (int i = 0; i < 21; i++) {
            x.set(0, i, 5);
        }
        DUE.is("0", x.meant(0, 0, -1), -6);
        DUE.is("1", x.meant(0, 1, -1), 1);
        DUE.is("20", x.meant(0, 20, -1), 1);
        DUE.is("the last of 20", x.meant(0, 20, 19), 0);
        DUE.is("21", x.meant(0, 21, -1), -6);
        DUE.is("-1", x.meant(0, -1, -1), -4);
        DUE.is("22 of 21", x.meant(0, 22, -1), -5);
    }

    /** DEPTHS 0 to 24, of the first n. */
    private static void meantByDepths() {
        TheLiningsInIt x = at(1, 1, 0, 1);
        Due.ints(x, 0, 1, 0, 25);
        DUE.is("0 is one", x.meant(0, 2, -1), 1);
        DUE.is("25 is none", x.meant(0, 3, -1), -6);
        DUE.is("25 is none, of the first", x.meant(0, 3, 0), -6);
        x.set(0, 2, -1);
        DUE.is("-1 is none", x.meant(0, 3, -1), -6);
        x.set(0, 2, 24);
        DUE.is("24 is one", x.meant(0, 3, -1), 0);
        x.set(0, 0, 25);
        DUE.is("25 at first", x.meant(0, 1, -1), -6);
    }

    /** SECONDS aside. */
    private static void meantAsideOfSeconds() {
        TheLiningsInIt x = at(2, 1, 0, 60);
        x.ask(1, 0);
        Due.ints(x, 0, 1, 0);
        DUE.is("how many", x.meant(0, 2, -1), 1);
        DUE.is("the first", x.meant(0, 2, 1), 0);
    }

    /** At DEPTH 0 nothing MAY be pulled. */
    private static void meantAtDepthNought() {
        TheLiningsInIt x = at(0, 1, 0, 1, 5, 0, 1);
        Due.ints(x, 0, 0, 0);
        DUE.is("from 0 to 0", x.meant(0, 1, -1), 0);
        DUE.is("none made it", x.meant(0, 1, 0), -5);
        x.ask(0, 1);
        DUE.is("from 1 to 0", x.meant(0, 1, -1), 2);
        DUE.is("from 1 to 0 to 0", x.meant(0, 2, -1), 0);
    }

    /** By a way that isn't 0 of 12. */
    private static void meantByNoneOfTwelve() {
        TheLiningsInIt x = at(24, 0, 0, 1);
        Due.ints(x, 0, 23);
        DUE.is("of 0 of 12 it doesn't free", x.meant(0, 1, -1), 0);
        Due.ints(x, 1, 24);
        DUE.is("it stays", x.meant(1, 1, -1), 1);
        x.ask(0, 23);
        Due.ints(x, 0, 22);
        DUE.is("of 1 of 12 it may", x.meant(0, 1, -1), 1);
    }

    private static void meantByTwelveOfTwelve() {
        TheLiningsInIt x = at(3, 3, 8, 1, 5, 0, 1);
        Due.ints(x, 0, 3);
        DUE.is("of 12 of 12 it doesn't stay", x.meant(0, 1, -1), 0);
        Due.ints(x, 1, 2);
        DUE.is("SMEARED frees it by 1", x.meant(1, 1, 0), 0);
        Due.ints(x, 2, 0);
        DUE.is("a TEAR by 4", x.meant(2, 1, 0), 1);
        x.ask(0, 4);
        Due.ints(x, 0, 4);
        DUE.is("of 11 of 12 it may stay", x.meant(0, 1, -1), 1);
    }

    /** Deeper (24 at most); by HURRY of 6. */
    private static void meantAtTheDeepest() {
        TheLiningsInIt x = at(21, 2, 9, 1, 4, 0, 1);
        Due.ints(x, 0, 24);
        DUE.is("HARD, 4 deeper than 21", x.meant(0, 1, -1), 1);
        x.ask(0, 24);
        DUE.is("either stays at 24", x.meant(0, 1, -1), 2);
        x.ask(0, 23);
        x.ask(2, 6);
        DUE.is("either comes to 24 by HURRY", x.meant(0, 1, -1), 2);
        Due.ints(x, 1, 23);
        DUE.is("none stays by HURRY", x.meant(1, 1, -1), 0);
    }

    /** 1,000,000 at most: 8 ways to stay, 5 to come 1 less deep. */
    private static void aMillionAtMost() {
        TheLiningsInIt x = at(10, 0, 0, 1, 0, 0, 1, 0, 0, 1, 1, 0, 1, 1, 0, 1, 4, 0, 1, 4, 0, 1, 4, 0, 1);
        int[] row = {10, 9, 9, 8, 7, 6, 5, 4, 4, 4, 2, 2, 2, 2, 2, 2, 2, 2, 2, 2};
        int[] due = {8, 40, 320, 1600, 8000, 40000, 200000, 1000000, 1000000, 1000000};
        Due.ints(x, 0, row);
        for (int n = 1; n <= 10; n++) {
            DUE.is("by " + n, x.meant(0, n, -1), due[n - 1]);
        }
        DUE.is("by 20", x.meant(0, 20, -1), 1000000);
        DUE.is("the first at the end", x.meant(0, 20, 19), 0);
        DUE.is("the first by 2", x.meant(0, 20, 10), 5);
        x.set(0, 19, 20);
        DUE.is("none for all that", x.meant(0, 20, -1), 0);
        DUE.is("none for all that", x.meant(0, 20, 0), -5);
        x.set(0, 19, 1);
        x.set(0, 18, 1);
        x.set(0, 17, 1);
        DUE.is("1 at the end", x.meant(0, 20, -1), 1000000);
    }

    private static void theFirstOfSeveral() {
        TheLiningsInIt x = at(6, 4, 0, 1, 0, 0, 1, 1, 0, 1, 4, 9, 9);
        Due.ints(x, 0, 4, 3, 3);
        DUE.is("SLANT by 2", x.meant(0, 3, 0), 0);
        DUE.is("PULL by 1", x.meant(0, 3, 1), 1);
        DUE.is("any by 0", x.meant(0, 3, 2), 0);
        DUE.is("how many", x.meant(0, 3, -1), 2 * 2 * 4);
    }

    /** -5 also no such i: looked at only if n may be. */
    private static void noSuchI() {
        TheLiningsInIt x = at(5, 1, 0, 1);
        x.row(0, 0, 30);
        for (int i = 0; i < 30; i++) {
            x.set(0, i, 5);
        }
        DUE.is("i is n", x.meant(0, 3, 3), -5);
        DUE.is("i is n less 1", x.meant(0, 3, 2), 0);
        DUE.is("i is NONE", x.meant(0, 3, -1), 1);
        DUE.is("i is below NONE", x.meant(0, 3, -2), -5);
        DUE.is("an i of 0", x.meant(0, 0, 0), -6);
        DUE.is("no such i of 0", x.meant(0, 0, 7), -6);
        DUE.is("an i of 21", x.meant(0, 21, 20), -6);
        DUE.is("no such i of 21", x.meant(0, 21, 21), -6);
        DUE.is("an i of 31", x.meant(0, 31, 0), -5);
    }

    /** -5 none (i not NONE). */
    private static void noneOfAWholeRow() {
        TheLiningsInIt x = at(5, 1, 0, 1);
        Due.ints(x, 0, 5, 4, 6, 5);
        DUE.is("two of it may be", x.meant(0, 2, -1), 1);
        DUE.is("the third may not", x.meant(0, 3, -1), 0);
        for (int i = 0; i < 4; i++) {
            DUE.is("so none made " + i, x.meant(0, 4, i), -5);
        }
        DUE.is("how many is no refusal", x.status(15), 4);
    }

    private static void meantOfEachSort() {
        for (int sort = 0; sort < 4; sort++) {
            TheLiningsInIt x = at(5, 1, 0, 1);
            x.row(0, sort, 1);
            x.set(0, 0, 4 + (1L << 32));
            DUE.is("sort " + sort, x.meant(0, 1, 0), 0);
            x.set(0, 0, sort == 3 ? 4 + (1L << 31) : 4 + (1L << (8 << sort) - 1));
            DUE.is("no DEPTH of sort " + sort, x.meant(0, 1, 0), -6);
        }
    }
}
