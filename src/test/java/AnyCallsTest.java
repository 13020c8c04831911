import java.util.Random;

/** Calls by chance: none may throw, and one that is refused changes nothing but the refusals. */
public final class AnyCallsTest {
    private static final Due DUE = new Due("AnyCallsTest");
    private static final int[] EDGES = {Integer.MIN_VALUE, Integer.MAX_VALUE, -100, 41, 161, 160, 301, 61};
    private static final String[] TEXTS = {"teeth 9;lack 3", "pull 2 3 4", "slack 3 9;gap 2", "at 9;depth 4;x",
        "hurry 9;seconds 99;cost 1 7"};

    private static Random random;

    public static void main(String[] args) {
        for (int round = 0; round < 6000; round++) {
            random = new Random(round);
            anyCalls();
        }
        DUE.end();
    }

    private static int n() {
        return random.nextInt(12) == 0 ? EDGES[random.nextInt(EDGES.length)] : random.nextInt(12) - 2;
    }

    private static void anyCalls() {
        TheLiningsInIt x = new TheLiningsInIt();
        for (int i = 0; i < 4; i++) {
            x.pull(random.nextInt(7), random.nextInt(10), 1 + random.nextInt(9));
        }
        Due.text(x, 1, TEXTS[random.nextInt(TEXTS.length)]);
        x.row(2, random.nextInt(4), 25);
        // Some 70 calls a step, as all that is seen is looked at: an object is promised 512.
        for (int i = 0; i < 6; i++) {
            int method = random.nextInt(39);
            long before = view(x);
            int refusals = refusals(x);
            try {
                long got = method < 13 ? told(x, method) : method < 26 ? asked(x, method) : made(x, method);
                int more = refusals(x) - refusals;
                DUE.is("at most one refusal of method " + method, more == 0 || more == 1 ? 1 : 0, 1);
                if (more == 1) {
                    DUE.is("a refusal of method " + method, got < 0 ? 1 : 0, 1);
                    DUE.is("what a refusal by method " + method + " leaves", view(x), before);
                }
            } catch (RuntimeException | StackOverflowError thrown) {
                DUE.is("method " + method + " threw " + thrown, 1, 0);
            }
        }
    }

    /** All that status and shelves tell, in one number. */
    private static long view(TheLiningsInIt x) {
        long view = 0;
        for (int what = 0; what < 10; what++) {
            view = view * 31 + x.status(what);
        }
        for (int s = 0; s < 8; s++) {
            view = view * 31 + x.holds(s);
            view = view * 31 + x.element(s, 3);
        }
        return view * 31 + x.closed();
    }

    private static int refusals(TheLiningsInIt x) {
        int all = 0;
        for (int no = 11; no <= 17; no++) {
            all += x.status(no);
        }
        return all;
    }

    private static long told(TheLiningsInIt x, int method) {
        switch (method) {
            case 0: return x.row(n(), n(), n());
            case 1: return x.set(n(), n(), random.nextLong());
            case 2: return x.copy(n(), n(), n(), n(), n());
            case 3: return Math.min(0, x.element(n(), n()));
            case 4: return x.show(n(), n());
            case 5: return x.holds(n());
            case 6: return x.says(n(), n());
            case 7: return x.pull(n(), n(), n());
            case 8: return x.pullOf(n(), n());
            case 9: return x.teeth(n() * 4);
            case 10: return x.lack(n(), random.nextBoolean());
            case 11: return x.slack(n(), n());
            default: return x.ask(n(), n());
        }
    }

    private static long asked(TheLiningsInIt x, int method) {
        switch (method) {
            case 13: return x.jacket(n());
            case 14: return x.fault();
            case 15: return x.frees(n(), n(), n());
            case 16: return x.cases(n(), n());
            case 17: return x.line(n(), n());
            case 18: return x.haste(n() % 4, n());
            case 19: return x.freed(n(), n());
            case 20: return x.best(n());
            case 21: return x.behind(n(), n(), n());
            case 22: return x.strong(n());
            case 23: return x.catches(n());
            case 24: return x.stitches(n());
            default: return x.judge(n(), n());
        }
    }

    private static long made(TheLiningsInIt x, int method) {
        switch (method) {
            case 26: return x.meant(n(), n(), n());
            case 27: return x.closed();
            case 28: return x.pulls(n());
            case 29: return x.close();
            case 30: return x.winter(n());
            case 31: return x.stitch(n());
            case 32: return x.seed(n());
            case 33: return x.act(n(), n(), random.nextInt());
            case 34: return x.trace(n());
            case 35: return x.image();
            case 36: return x.restore();
            case 37: return x.status(n());
            default: return x.row(n(), n(), n());
        }
    }
}
