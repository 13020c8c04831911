import java.lang.reflect.InvocationTargetException;
import java.lang.reflect.Method;
import java.util.Arrays;
import java.util.HashMap;
import java.util.Map;
import java.util.Random;

/** Promises 1 to 39: runs of calls by chance, each answered as by the document once more (Model). */
public final class ModelTest {
    private static final Due DUE = new Due("ModelTest");
    private static final int MOST_CALLS = 512;
    private static final String[] ITEMS = {"teeth 4", "teeth 40", "teeth 041", "lack 3", "lack 19", "lack 20",
        "slack 2 9", "slack 39 5", "slack 0 10", "pull 5 0 1", "pull 2 9 60", "pull 7 0 1", "pull 0 10 9",
        "depth 24", "depth 5", "depth 25", "seconds 300", "seconds 9", "seconds 301", "hurry 6", "hurry 0",
        "gap 1", "gap 9", "gap 0", "cost 0 99", "cost 1 3", "cost 3 0", "at 0", "at 12", "at 41"};

    private static final Map<String, Method> PROGRAM = methods(TheLiningsInIt.class);
    private static final Map<String, Method> MODEL = methods(Model.class);

    private static Random random;
    private static TheLiningsInIt program;
    private static Model model;
    private static int calls;
    private static StringBuilder run;
    private static boolean failed;

    public static void main(String[] args) throws IllegalAccessException, InvocationTargetException {
        DUE.is("methods of the face", PROGRAM.size(), 38);
        DUE.is("methods of the model", MODEL.keySet().containsAll(PROGRAM.keySet()) ? 1 : 0, 1);
        for (int round = 0; round < 900; round++) {
            random = new Random(round);
            begin();
            while (calls < MOST_CALLS && !failed) {
                step(random.nextInt(28));
            }
        }
        DUE.end();
    }

    private static Map<String, Method> methods(Class<?> face) {
        Map<String, Method> methods = new HashMap<>();
        for (Method method : face.getDeclaredMethods()) {
            boolean own = face == TheLiningsInIt.class
                    && !java.lang.reflect.Modifier.isPublic(method.getModifiers());
            if (!own && !java.lang.reflect.Modifier.isPrivate(method.getModifiers())) {
                methods.put(method.getName(), method);
            }
        }
        return methods;
    }

    private static void begin() throws IllegalAccessException, InvocationTargetException {
        program = new TheLiningsInIt();
        model = new Model();
        calls = 0;
        run = new StringBuilder();
        failed = false;
        if (random.nextInt(4) != 0) {
            call("teeth", within(4, 40));
        }
        for (int p = random.nextInt(9); p > 0; p--) {
            call("pull", within(0, 6), within(0, 9), within(1, random.nextBoolean() ? 60 : 5));
        }
        for (int i = random.nextInt(12); i > 0; i--) {
            call(random.nextBoolean() ? "lack" : "slack", within(0, 39), true);
        }
    }

    /** One call of both, the same; a boolean stands for a number where a number is wanted. */
    private static long call(String name, Object... given) throws IllegalAccessException, InvocationTargetException {
        if (calls >= MOST_CALLS) {
            return 0;
        }
        calls++;
        Object[] args = given.clone();
        Class<?>[] types = PROGRAM.get(name).getParameterTypes();
        for (int i = 0; i < args.length; i++) {
            if (types[i] == int.class && args[i] instanceof Boolean) {
                args[i] = random.nextInt(10);
            }
        }
        long want = ((Number) MODEL.get(name).invoke(model, args)).longValue();
        long got = ((Number) PROGRAM.get(name).invoke(program, args)).longValue();
        String told = name + Arrays.toString(args);
        run.append(told).append(' ');
        failed = failed || got != want;
        DUE.is(got == want ? told : "at the end of " + run, got, want);
        return got;
    }

    private static int within(int least, int most) {
        return least + random.nextInt(most - least + 1);
    }

    /** Mostly what may be, now and then just beside it or far from it. */
    private static int about(int least, int most) {
        switch (random.nextInt(24)) {
            case 0: return least - 1;
            case 1: return most + 1;
            case 2: return least;
            case 3: return most;
            case 4: return random.nextInt(6) == 0 ? Integer.MIN_VALUE : Integer.MAX_VALUE;
            default: return within(least, most);
        }
    }

    private static int shelf() {
        return about(0, 7);
    }

    private static int aPull() {
        return random.nextInt(3) == 0 ? about(0, 7) : within(-1, Math.max(0, model.status(0)));
    }

    private static void step(int which) throws IllegalAccessException, InvocationTargetException {
        if (which < 10) {
            stepOfShelves(which);
        } else if (which < 19) {
            stepOfNumbers(which);
        } else {
            stepInTruth(which);
        }
    }

    private static void stepOfShelves(int which) throws IllegalAccessException, InvocationTargetException {
        switch (which) {
            case 0: call("row", shelf(), about(0, 3), about(0, random.nextBoolean() ? 160 : 6)); break;
            case 1: call("set", shelf(), about(0, 5), random.nextLong() >> random.nextInt(64)); break;
            case 2: call("copy", shelf(), shelf(), about(0, 3), about(0, 3), about(0, 4)); break;
            case 3: call("element", shelf(), about(0, 5)); break;
            case 4: call("show", shelf(), aPull()); break;
            case 5: call("holds", shelf()); break;
            case 6: call("says", shelf(), about(0, 6)); break;
            case 7: belief(); break;
            case 8: tale(); break;
            default: text(); break;
        }
    }

    private static void belief() throws IllegalAccessException, InvocationTargetException {
        int s = shelf();
        call("row", s, about(0, 3), about(25, 27));
        for (int i = random.nextInt(12); i > 0; i--) {
            call("set", s, about(0, 26), (long) about(0, 99) + (random.nextInt(9) == 0 ? 1L << 32 : 0));
        }
        for (int i = 0; i < 3; i++) {
            int t = random.nextInt(5) == 0 ? shelf() : s;
            call("best", t);
            call("freed", t, aPull());
            call("behind", t, aPull(), about(0, 24));
        }
    }

    private static void tale() throws IllegalAccessException, InvocationTargetException {
        int s = shelf();
        int n = about(1, random.nextInt(4) == 0 ? 21 : 4);
        call("row", s, about(0, 3), n + random.nextInt(2));
        boolean ofPulls = random.nextBoolean();
        int depth = model.status(3);
        for (int i = 0; i < n && i < 21; i++) {
            if (ofPulls) {
                call("set", s, i, (long) aPull());
            } else {
                int way = (int) call("frees", within(0, 7), Math.max(1, depth), within(1, 2));
                depth = way < 0 || random.nextInt(12) == 0 ? about(0, 24) : way;
                call("set", s, i, (long) depth);
            }
        }
        for (int i = 0; i < 4; i++) {
            int t = random.nextInt(6) == 0 ? shelf() : s;
            call("judge", t, about(0, Math.max(0, Math.min(20, n))));
            call("meant", t, random.nextInt(4) == 0 ? about(1, 20) : n, about(-1, Math.max(0, Math.min(20, n - 1))));
        }
    }

    private static void text() throws IllegalAccessException, InvocationTargetException {
        StringBuilder text = new StringBuilder();
        for (int items = random.nextInt(5); items >= 0; items--) {
            text.append(ITEMS[random.nextInt(ITEMS.length)]).append(items == 0 ? "" : ";");
        }
        if (random.nextInt(3) == 0) {
            int at = random.nextInt(text.length());
            String signs = " ;0189tlspdhgcax\n\0";
            text.setCharAt(at, signs.charAt(random.nextInt(signs.length())));
        }
        if (random.nextInt(4) == 0) {
            text.setLength(random.nextInt(text.length() + 1));
        }
        int s = shelf();
        call("row", s, within(0, 3), text.length());
        for (int i = 0; i < text.length(); i++) {
            call("set", s, i, (long) text.charAt(i));
        }
        call("jacket", random.nextInt(8) == 0 ? shelf() : s);
        call("fault");
        someStatus();
    }

    private static void stepOfNumbers(int which) throws IllegalAccessException, InvocationTargetException {
        switch (which) {
            case 10: call("pull", about(0, 6), about(0, 9), about(1, 60)); break;
            case 11: call("pullOf", aPull(), about(0, 4)); break;
            case 12: call("teeth", about(4, 40)); break;
            case 13: call("lack", about(0, 39), random.nextInt(3) != 0); break;
            case 14: call("slack", about(0, 39), about(0, 9)); break;
            case 15: call("ask", about(0, 7), about(0, random.nextBoolean() ? 9 : 60)); break;
            case 16: call("ask", 0, about(0, random.nextBoolean() ? 24 : 5)); break;
            case 17: call("ask", 1, about(0, 300)); break;
            default: call("frees", aPull(), about(1, 24), about(0, 2)); break;
        }
    }

    private static void stepInTruth(int which) throws IllegalAccessException, InvocationTargetException {
        switch (which) {
            case 19:
                call("cases", about(0, 4), about(0, 2));
                call("line", about(0, 4), about(0, 1));
                break;
            case 20: call("haste", about(0, 4), about(0, 1)); break;
            case 21:
                call("strong", about(0, 3));
                call("catches", about(-1, 6));
                call("stitches", about(-1, 3));
                call("closed");
                break;
            case 22: call("pulls", aPull()); break;
            case 23: call("close"); break;
            case 24:
                call("winter", random.nextInt(3) == 0 ? about(1, 60) : within(1, 3));
                someStatus();
                break;
            case 25: call("stitch", about(0, 39)); break;
            case 26:
                call(random.nextBoolean() ? "image" : "restore");
                call("seed", random.nextInt());
                someStatus();
                break;
            default:
                call("act", aPull(), about(0, 2), random.nextInt());
                call("trace", about(0, 12));
                call("trace", about(0, 20));
                break;
        }
    }

    private static void someStatus() throws IllegalAccessException, InvocationTargetException {
        for (int i = 0; i < 6; i++) {
            call("status", about(0, 18));
        }
    }
}
