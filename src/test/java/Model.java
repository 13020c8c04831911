import java.util.ArrayList;
import java.util.HashMap;
import java.util.List;
import java.util.Map;

/**
 * The document once more, in its plainest words and apart from the program, so that runs of calls
 * can be compared. It has the face of the program.
 */
final class Model {
    private static final String[] WORDS =
            {"teeth", "lack", "slack", "pull", "depth", "seconds", "hurry", "gap", "cost", "at"};

    /** All that an image keeps. */
    private static final class State {
        int n = 20;
        int at = 0;
        int depth = 0;
        int torn = 0;
        int seconds = 60;
        int hurry = 0;
        int gap = 3;
        int seed = 1;
        int[] cost = {5, 10, 50};
        boolean[] lack = new boolean[43];
        int[] slack = new int[43];
        List<Pulling> pulls = new ArrayList<>();

        State copy() {
            State c = new State();
            c.n = n;
            c.at = at;
            c.depth = depth;
            c.torn = torn;
            c.seconds = seconds;
            c.hurry = hurry;
            c.gap = gap;
            c.seed = seed;
            c.cost = cost.clone();
            c.lack = lack.clone();
            c.slack = slack.clone();
            c.pulls = new ArrayList<>(pulls);
            return c;
        }
    }

    private static final class Held {
        final int pull;
        final int sort;
        final long[] row;

        Held(int pull, int sort, long[] row) {
            this.pull = pull;
            this.sort = sort;
            this.row = row;
        }
    }

    private final Held[] shelf = new Held[8];
    private final int[] refusals = new int[8];
    private final List<Integer> trace = new ArrayList<>();
    private final Map<Integer, Integer> known = new HashMap<>();
    private State o = new State();
    private State image = null;
    private int fault = -1;

    private int no(int k) {
        refusals[k]++;
        return -k;
    }

    private int noLower(int k) {
        return no(k) - 10;
    }

    private static boolean in(int v, int least, int most) {
        return least <= v && v <= most;
    }

    private boolean isPull(int p) {
        return in(p, 0, o.pulls.size() - 1);
    }

    /** What stands against a row on a shelf: 1, 2, 3; or 0. */
    private int noRow(int s) {
        return !in(s, 0, 7) ? 1 : shelf[s] == null ? 3 : shelf[s].row == null ? 2 : 0;
    }

    int row(int s, int sort, int n) {
        if (!in(s, 0, 7)) {
            return no(1);
        }
        if (n < 0) {
            return no(4);
        }
        if (!in(sort, 0, 3)) {
            return no(6);
        }
        if (n > 160) {
            return no(7);
        }
        shelf[s] = new Held(-1, sort, new long[n]);
        return 1;
    }

    int set(int s, int i, long v) {
        int no = noRow(s);
        if (no != 0) {
            return no(no);
        }
        if (!in(i, 0, shelf[s].row.length - 1)) {
            return no(5);
        }
        int bits = 64 - (8 << shelf[s].sort);
        shelf[s].row[i] = v << bits >> bits;
        return 1;
    }

    int copy(int p, int q, int i, int j, int n) {
        int a = noRow(p);
        int b = noRow(q);
        if (a == 1 || b == 1) {
            return no(1);
        }
        if (a == 2 || b == 2 || a == 0 && b == 0 && shelf[p].sort != shelf[q].sort) {
            return no(2);
        }
        if (a == 3 || b == 3) {
            return no(3);
        }
        if (n < 0) {
            return no(4);
        }
        if (i < 0 || j < 0 || (long) i + n > shelf[p].row.length || (long) j + n > shelf[q].row.length) {
            return no(5);
        }
        long[] from = shelf[p].row.clone();
        for (int k = 0; k < n; k++) {
            shelf[q].row[j + k] = from[i + k];
        }
        return 1;
    }

    long element(int s, int i) {
        return noRow(s) != 0 || !in(i, 0, shelf[s].row.length - 1) ? 0 : shelf[s].row[i];
    }

    int show(int s, int pull) {
        if (!in(s, 0, 7) || pull != -1 && !isPull(pull)) {
            return no(1);
        }
        shelf[s] = pull == -1 ? null : new Held(pull, 0, null);
        return pull == -1 ? 0 : 1;
    }

    int holds(int s) {
        return !in(s, 0, 7) || shelf[s] == null ? -1 : shelf[s].row == null ? shelf[s].pull : 100 + shelf[s].sort;
    }

    int says(int s, int kind) {
        if (!in(s, 0, 7) || !in(kind, 0, 6)) {
            return no(1);
        }
        if (shelf[s] == null) {
            return no(3);
        }
        if (shelf[s].row != null || !o.pulls.get(shelf[s].pull).under(kind)) {
            return no(2);
        }
        Pulling p = o.pulls.get(shelf[s].pull);
        int at8 = p.ways(8, o.hurry);
        int[] says = {p.takes, at8, p.step(), at8, p.ways(12, o.hurry), p.step(), at8};
        return says[kind];
    }

    int pull(int kind, int a, int takes) {
        if (!in(kind, 0, 6)) {
            return no(1);
        }
        if (!in(a, 0, 9) || !in(takes, 1, 60)) {
            return no(6);
        }
        if (o.pulls.size() == 8) {
            return no(7);
        }
        o.pulls.add(new Pulling(kind, a, takes));
        return o.pulls.size() - 1;
    }

    int pullOf(int pull, int what) {
        if (!isPull(pull) || !in(what, 0, 4)) {
            return no(5);
        }
        Pulling p = o.pulls.get(pull);
        int[] of = {p.kind, p.a, p.takes, p.step(), p.may(o.depth, o.seconds) ? 1 : 0};
        return of[what];
    }

    int teeth(int n) {
        if (!in(n, 4, 40)) {
            return no(6);
        }
        int was = o.n;
        renew(o, n);
        return was;
    }

    private static void renew(State to, int n) {
        to.n = n;
        to.at = 0;
        to.lack = new boolean[43];
        to.slack = new int[43];
    }

    int lack(int tooth, boolean is) {
        if (!in(tooth, 0, o.n - 1)) {
            return no(1);
        }
        boolean was = o.lack[tooth];
        o.lack[tooth] = is;
        return was ? 1 : 0;
    }

    int slack(int tooth, int v) {
        if (!in(tooth, 0, o.n - 1)) {
            return no(1);
        }
        if (!in(v, 0, 9)) {
            return no(6);
        }
        int was = o.slack[tooth];
        o.slack[tooth] = v;
        return was;
    }

    int ask(int what, int v) {
        int[] most = {24, 300, 9, 9, 99, 99, 99, o.n};
        if (!in(what, 0, 7) || !in(v, what == 3 ? 1 : 0, most[what])) {
            return no(6);
        }
        int[] was = {o.depth, o.seconds, o.hurry, o.gap, o.cost[0], o.cost[1], o.cost[2], o.at};
        becomes(o, what, v);
        return was[what];
    }

    private static void becomes(State to, int what, int v) {
        to.depth = what == 0 ? v : to.depth;
        to.seconds = what == 1 ? v : to.seconds;
        to.hurry = what == 2 ? v : to.hurry;
        to.gap = what == 3 ? v : to.gap;
        if (in(what, 4, 6)) {
            to.cost[what - 4] = v;
        }
        to.at = what == 7 ? v : to.at;
    }

    int jacket(int s) {
        int no = noRow(s);
        if (no != 0) {
            return no(no);
        }
        int[] text = new int[shelf[s].row.length];
        for (int i = 0; i < text.length; i++) {
            text[i] = (int) shelf[s].row[i];
        }
        State told = o.copy();
        int items = 0;
        int i = 0;
        do {
            i = item(told, text, i + (items == 0 ? 0 : 1));
            items++;
        } while (i >= 0 && i < text.length && text[i] == ';');
        fault = i < 0 ? -1 - i : i < text.length ? i : -1;
        if (fault != -1) {
            return no(6);
        }
        o = told;
        return items;
    }

    /** Tells the item that begins at i; where it ends, or -1 less its fault. */
    private static int item(State told, int[] text, int i) {
        int end = i;
        List<String> may = new ArrayList<>(List.of(WORDS));
        while (may.size() != 1 || may.get(0).length() != end - i) {
            int letter = end - i;
            int sign = end < text.length ? text[end] : 0;
            may.removeIf(word -> word.charAt(letter) != sign);
            if (may.isEmpty()) {
                return -1 - end;
            }
            end++;
        }
        String word = may.get(0);
        if (word.equals("pull") && told.pulls.size() == 8) {
            return -1 - i;
        }
        int[][] bounds = bounds(told, word);
        int[] v = new int[bounds.length];
        for (int k = 0; k < v.length; k++) {
            if (end >= text.length || text[end] != ' ') {
                return -1 - end;
            }
            int first = end + 1;
            StringBuilder digits = new StringBuilder();
            for (end = first; end < text.length && end < first + 3 && in(text[end], '0', '9'); end++) {
                digits.append((char) text[end]);
            }
            v[k] = end == first ? -1 : Integer.parseInt(digits.toString());
            if (!in(v[k], bounds[k][0], bounds[k][1])) {
                return -1 - first;
            }
        }
        tell(told, word, v);
        return end;
    }

    private static int[][] bounds(State told, String word) {
        switch (word) {
            case "teeth": return new int[][] {{4, 40}};
            case "lack": return new int[][] {{0, told.n - 1}};
            case "slack": return new int[][] {{0, told.n - 1}, {0, 9}};
            case "pull": return new int[][] {{0, 6}, {0, 9}, {1, 60}};
            case "depth": return new int[][] {{0, 24}};
            case "seconds": return new int[][] {{0, 300}};
            case "hurry": return new int[][] {{0, 9}};
            case "gap": return new int[][] {{1, 9}};
            case "cost": return new int[][] {{0, 2}, {0, 99}};
            default: return new int[][] {{0, told.n}};
        }
    }

    private static void tell(State told, String word, int[] v) {
        switch (word) {
            case "teeth": renew(told, v[0]); break;
            case "lack": told.lack[v[0]] = true; break;
            case "slack": told.slack[v[0]] = v[1]; break;
            case "pull": told.pulls.add(new Pulling(v[0], v[1], v[2])); break;
            case "depth": becomes(told, 0, v[0]); break;
            case "seconds": becomes(told, 1, v[0]); break;
            case "hurry": becomes(told, 2, v[0]); break;
            case "gap": becomes(told, 3, v[0]); break;
            case "cost": becomes(told, 4 + v[0], v[1]); break;
            default: becomes(told, 7, v[0]); break;
        }
    }

    int fault() {
        return fault;
    }

    int frees(int pull, int depth, int what) {
        if (!isPull(pull)) {
            return no(1);
        }
        if (!in(what, 0, 2)) {
            return no(5);
        }
        if (!in(depth, 1, 24)) {
            return no(6);
        }
        Pulling p = o.pulls.get(pull);
        return what == 0 ? p.ways(depth, o.hurry) : what == 1 ? p.freed(depth) : p.stuck(depth, o.hurry);
    }

    private static int power(int n) {
        return n == 0 ? 1 : 12 * power(n - 1);
    }

    private int most(int n, int d, int seconds, int hurry, boolean tears) {
        if (d == 0 || n == 0) {
            return d == 0 ? power(n) : 0;
        }
        int key = ((n * 25 + d) * 301 + seconds) * 20 + hurry * 2 + (tears ? 1 : 0);
        Integer found = known.get(key);
        if (found == null) {
            found = 12 * most(n - 1, d, seconds, hurry, tears);
            for (Pulling p : o.pulls) {
                if (p.may(d, seconds) && (tears || p.kind != 5)) {
                    found = Math.max(found, mostBy(p, n, d, seconds, hurry, tears));
                }
            }
            known.put(key, found);
        }
        return found;
    }

    private int mostBy(Pulling p, int n, int d, int seconds, int hurry, boolean tears) {
        int ways = p.ways(d, hurry);
        return ways * most(n - 1, p.freed(d), seconds - p.takes, hurry, tears)
                + (12 - ways) * most(n - 1, p.stuck(d, hurry), seconds - p.takes, hurry, tears);
    }

    int cases(int n, int what) {
        known.clear();
        if (!in(what, 0, 2)) {
            return noLower(5);
        }
        if (!in(n, 0, 4)) {
            return noLower(6);
        }
        return what == 1 ? next(n) : most(n, o.depth, o.seconds, o.hurry, what == 0);
    }

    private int next(int n) {
        int next = -1;
        int most = -1;
        for (int p = 0; p < o.pulls.size() && n > 0; p++) {
            if (o.pulls.get(p).may(o.depth, o.seconds)) {
                int by = mostBy(o.pulls.get(p), n, o.depth, o.seconds, o.hurry, true);
                next = by > most ? p : next;
                most = Math.max(by, most);
            }
        }
        return next;
    }

    int line(int n, int what) {
        known.clear();
        if (!in(what, 0, 1)) {
            return noLower(5);
        }
        if (!in(n, 0, 4)) {
            return noLower(6);
        }
        int least = least(n, o.depth, o.seconds);
        if (what == 0 || o.depth == 0) {
            return what == 0 ? least : -1;
        }
        for (int p = 0; p < o.pulls.size() && n > 0; p++) {
            if (o.pulls.get(p).may(o.depth, o.seconds)
                    && leastBy(o.pulls.get(p), n, o.depth, o.seconds) == least) {
                return p;
            }
        }
        return o.seconds >= 30 && power(n) * o.cost[1] == least ? 101 : 100;
    }

    private int least(int n, int d, int seconds) {
        if (d == 0) {
            return 0;
        }
        int key = (n * 25 + d) * 301 + seconds;
        Integer found = known.get(key);
        if (found == null) {
            found = power(n) * o.cost[2];
            if (seconds >= 30) {
                found = Math.min(found, power(n) * o.cost[1]);
            }
            for (int p = 0; p < o.pulls.size() && n > 0; p++) {
                if (o.pulls.get(p).may(d, seconds)) {
                    found = Math.min(found, leastBy(o.pulls.get(p), n, d, seconds));
                }
            }
            known.put(key, found);
        }
        return found;
    }

    private int leastBy(Pulling p, int n, int d, int seconds) {
        int ways = p.ways(d, o.hurry);
        return (p.kind == 5 ? power(n) * o.cost[0] : 0)
                + ways * least(n - 1, p.freed(d), seconds - p.takes)
                + (12 - ways) * least(n - 1, p.stuck(d, o.hurry), seconds - p.takes);
    }

    int haste(int n, int what) {
        known.clear();
        if (!in(what, 0, 1)) {
            return no(5);
        }
        if (!in(n, 0, 4)) {
            return no(6);
        }
        int[] by = new int[10];
        int best = 0;
        for (int hurry = 0; hurry <= 9; hurry++) {
            by[hurry] = most(n, o.depth, o.seconds, hurry, true);
            best = by[hurry] > by[best] ? hurry : best;
        }
        return what == 0 ? best : by[9] < by[0] ? 1 : 0;
    }

    /** What stands against a belief: 1, 2, 3, 5, 6; or 0. */
    private int noBelief(int s) {
        int no = noRow(s);
        if (no != 0 || shelf[s].row.length < 25) {
            return no != 0 ? no : 5;
        }
        for (int d = 0; d < 25; d++) {
            if (!in((int) shelf[s].row[d], 0, 99)) {
                return 6;
            }
        }
        return 0;
    }

    private int[] behind(int s, Pulling p) {
        int[] behind = new int[26];
        behind[0] = 12 * (int) shelf[s].row[0];
        behind[25] = behind[0];
        for (int d = 1; d < 25; d++) {
            int weight = (int) shelf[s].row[d];
            int ways = p.ways(d, o.hurry);
            behind[p.freed(d)] += weight * ways;
            behind[p.stuck(d, o.hurry)] += weight * (12 - ways);
            behind[25] += weight * ways;
        }
        return behind;
    }

    int freed(int s, int pull) {
        int no = isPull(pull) ? noBelief(s) : 1;
        return no != 0 ? no(no) : behind(s, o.pulls.get(pull))[25];
    }

    int best(int s) {
        int no = noBelief(s);
        if (no != 0) {
            return noLower(no);
        }
        int best = -1;
        for (int p = o.pulls.size() - 1; p >= 0; p--) {
            int freed = behind(s, o.pulls.get(p))[25];
            best = best == -1 || freed >= behind(s, o.pulls.get(best))[25] ? p : best;
        }
        return best;
    }

    int behind(int s, int pull, int depth) {
        int no = isPull(pull) ? noBelief(s) : 1;
        no = no == 0 && !in(depth, 0, 24) ? 6 : no;
        return no != 0 ? no(no) : behind(s, o.pulls.get(pull))[depth];
    }

    private boolean holds() {
        for (int t = 0; t < o.n; t++) {
            if (o.lack[t] && o.lack[t + 1] && o.lack[t + 2]) {
                return false;
            }
        }
        return true;
    }

    int strong(int what) {
        if (!in(what, 0, 3)) {
            return no(5);
        }
        int lacking = 0;
        int frail = 0;
        int spare = 0;
        boolean[] kept = o.lack.clone();
        for (int t = 0; t < o.n; t++) {
            lacking += kept[t] ? 1 : 0;
            o.lack[t] = true;
            frail += kept[t] || holds() ? 0 : 1;
            o.lack[t] = kept[t];
        }
        boolean holds = holds();
        // As many as may be from the first on: taking each that may be taken leaves the most.
        for (int t = 0; t < o.n && holds; t++) {
            if (!o.lack[t]) {
                o.lack[t] = true;
                spare += holds() ? 1 : 0;
                o.lack[t] = holds();
            }
        }
        o.lack = kept;
        int[] strong = {holds ? 1 : 0, holds ? frail : 0, spare, lacking};
        return strong[what];
    }

    private boolean catchesAt(int t) {
        return t < o.n && !o.lack[t] && o.slack[t] >= o.gap;
    }

    private int ith(List<Integer> list, int i) {
        return i == -1 ? list.size() : in(i, 0, list.size() - 1) ? list.get(i) : no(5);
    }

    int catches(int i) {
        List<Integer> found = new ArrayList<>();
        for (int t = 0; t < o.n; t++) {
            if (catchesAt(t)) {
                found.add(t);
            }
        }
        return ith(found, i);
    }

    int stitches(int i) {
        List<Integer> found = new ArrayList<>();
        int[] kept = o.slack.clone();
        for (int t = 0; t < o.n; t++) {
            if (catchesAt(t)) {
                found.add(Math.min(t + 2, o.n - 1));
                take(Math.min(t + 2, o.n - 1));
            }
        }
        o.slack = kept;
        return ith(found, i);
    }

    private int take(int middle) {
        int took = 0;
        for (int t = Math.max(0, middle - 2); t <= Math.min(o.n - 1, middle + 2); t++) {
            took += o.slack[t];
            o.slack[t] = 0;
        }
        return took;
    }

    int judge(int s, int n) {
        int no = noRow(s);
        no = no != 0 ? no : n < 0 ? 4 : n > shelf[s].row.length ? 5 : n > 20 ? 6 : 0;
        if (no != 0) {
            return noLower(no);
        }
        int d = o.depth;
        int seconds = o.seconds;
        for (int i = 0; i < n; i++) {
            int told = (int) shelf[s].row[i];
            if (!isPull(told) || !o.pulls.get(told).may(d, seconds)) {
                return i;
            }
            Pulling p = o.pulls.get(told);
            d = p.ways(d, o.hurry) >= 6 ? p.freed(d) : p.stuck(d, o.hurry);
            seconds -= p.takes;
        }
        return -1;
    }

    int meant(int s, int n, int i) {
        int no = noRow(s);
        no = no != 0 ? no : n < 0 ? 4 : n > shelf[s].row.length ? 5 : !in(n, 1, 20) ? 6 : !in(i, -1, n - 1) ? 5 : 0;
        for (int k = 0; k < n && no == 0; k++) {
            no = in((int) shelf[s].row[k], 0, 24) ? 0 : 6;
        }
        if (no != 0) {
            return no(no);
        }
        double rows = 1;
        int first = -1;
        int from = o.depth;
        for (int k = 0; k < n; k++) {
            int to = (int) shelf[s].row[k];
            int may = 0;
            for (int p = 0; p < o.pulls.size() && from > 0; p++) {
                Pulling one = o.pulls.get(p);
                int ways = one.ways(from, o.hurry);
                if (ways > 0 && one.freed(from) == to || ways < 12 && one.stuck(from, o.hurry) == to) {
                    first = k == i && may == 0 ? p : first;
                    may++;
                }
            }
            rows *= may;
            from = to;
        }
        return i == -1 ? (int) Math.min(1000000, rows) : rows == 0 ? no(5) : first;
    }

    int closed() {
        int t = o.at;
        while (t < o.n && !catchesAt(t) && !(o.lack[t] && o.lack[t + 1] && o.lack[t + 2])) {
            t++;
        }
        return t;
    }

    private int draw(int below) {
        o.seed = (int) (o.seed * 1103515245L + 12345);
        return (o.seed >> 16 & 0xffff) % below;
    }

    int pulls(int pull) {
        if (!isPull(pull)) {
            return no(1);
        }
        Pulling p = o.pulls.get(pull);
        if (!p.may(o.depth, o.seconds)) {
            return no(6);
        }
        o.depth = draw(12) < p.ways(o.depth, o.hurry) ? p.freed(o.depth) : p.stuck(o.depth, o.hurry);
        o.seconds -= p.takes;
        o.torn += p.kind == 5 ? 1 : 0;
        return o.depth;
    }

    int close() {
        if (o.depth != 0) {
            return no(6);
        }
        while (o.at < o.n && !(o.lack[o.at] && o.lack[o.at + 1] && o.lack[o.at + 2])) {
            if (catchesAt(o.at) && draw(10) < o.slack[o.at] - o.gap + 1) {
                o.depth = 1 + draw(6);
                return o.at;
            }
            o.at++;
        }
        return o.at;
    }

    int winter(int n) {
        if (!in(n, 1, 60)) {
            return no(6);
        }
        int came = 0;
        for (int day = 0; day < n; day++) {
            o.at = 0;
            o.depth = 0;
            o.seconds = 60;
            for (int closing = 0; closing < 3 && o.depth == 0 && o.at < o.n; closing++) {
                close();
                for (int i = 0; i < 12 && o.at < o.n && o.depth != 0; i++) {
                    known.clear();
                    int next = next(2);
                    if (next == -1) {
                        break;
                    }
                    pulls(next);
                }
            }
            came += o.at == o.n ? 1 : 0;
        }
        return came;
    }

    int stitch(int tooth) {
        return in(tooth, 0, o.n - 1) ? take(tooth) : no(1);
    }

    int seed(int v) {
        int was = o.seed;
        o.seed = v;
        return was;
    }

    int act(int pull, int move, int x) {
        trace.clear();
        return isPull(pull) && in(move, 0, 2) ? run(o.pulls.get(pull), pull, o.pulls.get(pull).kind, move, x) : 0;
    }

    private int run(Pulling p, int m, int kind, int move, int x) {
        int[] own = {10 + move, move == 0 ? 20 : 0, move == 1 ? 30 : 0, move == 1 ? 40 : 0,
            move == 2 ? 50 : move == 0 ? 51 : 0, move == 2 ? 60 : 0, move == 0 ? 70 : move == 1 ? 71 : 0};
        int up = Pulling.ABOVE[kind];
        if (own[kind] == 0) {
            return run(p, m, up, move, x);
        }
        trace.add(own[kind]);
        switch (own[kind]) {
            case 10: return x + m;
            case 11: return run(p, m, p.kind, 0, x) * 2;
            case 12:
                int frees = run(p, m, p.kind, 1, x);
                return frees ^ run(p, m, p.kind, 0, x - p.a);
            case 20: return run(p, m, up, 0, x) + p.a;
            case 30: return run(p, m, up, 1, x) * 3;
            case 40: return run(p, m, up, 1, x + 1);
            case 50: return -run(p, m, up, 2, x);
            case 51: return run(p, m, up, 0, x) - m;
            case 60: return run(p, m, up, 2, x) ^ 5;
            case 70: return run(p, m, up, 0, x) * 2;
            default: return run(p, m, up, 1, x - p.a);
        }
    }

    int trace(int i) {
        return in(i, 0, Math.min(20, trace.size()) - 1) ? trace.get(i) : -1;
    }

    int image() {
        image = o.copy();
        return o.pulls.size();
    }

    int restore() {
        if (image == null) {
            return no(6);
        }
        o = image.copy();
        for (int s = 0; s < 8; s++) {
            if (shelf[s] != null && shelf[s].row == null && !isPull(shelf[s].pull)) {
                shelf[s] = null;
            }
        }
        return o.pulls.size();
    }

    int status(int what) {
        int[] of = {o.pulls.size(), o.n, o.at, o.depth, o.torn, o.seconds, o.hurry, o.gap, o.seed, trace.size()};
        return in(what, 0, 9) ? of[what] : in(what, 11, 17) ? refusals[what - 10] : -1;
    }
}
