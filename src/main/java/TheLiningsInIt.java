import java.util.Arrays;

/** A jacket whose lining is in its zip. What each public method answers is told in the document. */
public final class TheLiningsInIt {
    public static final int NONE = -1;

    private static final int NOBODY = 1;
    private static final int OTHER = 2;
    private static final int NOTHING = 3;
    private static final int BELOW = 4;
    private static final int BEYOND = 5;
    private static final int WRONG = 6;
    private static final int ROOM = 7;
    private static final int REFUSAL_SORTS = 7;
    /** Where -1 and its like are answers of their own, a refusal lies so much lower. */
    private static final int LOWER = 10;

    private static final int PLAIN = 0;
    private static final int GENTLE = 1;
    private static final int HARD = 2;
    private static final int SMEARED = 3;
    private static final int SLANT = 4;
    private static final int TEAR = 5;
    private static final int HELPED = 6;
    private static final int KINDS = 7;
    /** The kind above each kind. */
    private static final int[] ABOVE = {NONE, PLAIN, PLAIN, GENTLE, PLAIN, HARD, SLANT};

    private static final int ALL_WAYS = 12;
    private static final int DEEPEST = 24;
    private static final int DEPTHS = 25;
    private static final int MOST_SECONDS = 300;
    private static final int DAY_SECONDS = 60;
    private static final int HEAD_SECONDS = 30;
    private static final int MOST_HURRY = 9;
    private static final int HASTY = 6;
    private static final int SAID_DEPTH = 8;
    private static final int SAID_DEPTH_OF_SLANT = 12;
    private static final int MOST_A = 9;
    private static final int MOST_TAKES = 60;
    private static final int MOST_PULLS = 8;
    private static final int LEAST_TEETH = 4;
    private static final int MOST_TEETH = 40;
    private static final int MOST_SLACK = 9;
    private static final int MOST_GAP = 9;
    private static final int MOST_COST = 99;
    private static final int MOST_WEIGHT = 99;
    private static final int MOST_AHEAD = 4;
    private static final int MOST_TOLD = 20;
    private static final int MOST_DAYS = 60;
    private static final int MOST_ROWS_MEANT = 1000000;

    private static final int SHELVES = 8;
    private static final int SORTS = 4;
    private static final int MOST_ELEMENTS = 160;
    /** A shelf with a row holds this and the row's sort; one with a pull holds the pull's number. */
    private static final int ROW_OF = 100;

    private static final int COST_OF_TEAR = 0;
    private static final int COST_OF_HEAD = 1;
    private static final int COST_OF_MISS = 2;
    private static final int COSTS = 3;
    private static final int MISS = 100;
    private static final int HEAD = 101;

    private final Shelf[] shelves = new Shelf[SHELVES];
    private final Jacket now = new Jacket();
    private final Jacket kept = new Jacket();
    private final Ways ways = new Ways();
    private final Reader reader = new Reader();
    private final Moves moves = new Moves();
    private final int[] refusals = new int[REFUSAL_SORTS + 1];
    private boolean imaged = false;
    private int latestFault = NONE;

    public TheLiningsInIt() {
        for (int s = 0; s < SHELVES; s++) {
            shelves[s] = new Shelf();
        }
    }

    public int row(int s, int sort, int n) {
        Shelf shelf = shelfAt(s);
        if (shelf == null) {
            return refuse(NOBODY);
        }
        if (n < 0) {
            return refuse(BELOW);
        }
        if (!within(sort, 0, SORTS - 1)) {
            return refuse(WRONG);
        }
        if (n > MOST_ELEMENTS) {
            return refuse(ROOM);
        }
        shelf.holdRow(sort, n);
        return 1;
    }

    public int set(int s, int i, long v) {
        Shelf shelf = shelfAt(s);
        if (shelf == null) {
            return refuse(NOBODY);
        }
        int no = shelf.noRow();
        if (no != 0) {
            return refuse(no);
        }
        if (!shelf.hasSpan(i, 1)) {
            return refuse(BEYOND);
        }
        shelf.put(i, v);
        return 1;
    }

    public int copy(int p, int q, int i, int j, int n) {
        Shelf from = shelfAt(p);
        Shelf to = shelfAt(q);
        if (from == null || to == null) {
            return refuse(NOBODY);
        }
        int noFrom = from.noRow();
        int noTo = to.noRow();
        boolean twoSorts = noFrom == 0 && noTo == 0 && from.held != to.held;
        if (noFrom == OTHER || noTo == OTHER || twoSorts) {
            return refuse(OTHER);
        }
        if (noFrom == NOTHING || noTo == NOTHING) {
            return refuse(NOTHING);
        }
        if (n < 0) {
            return refuse(BELOW);
        }
        if (!from.hasSpan(i, n) || !to.hasSpan(j, n)) {
            return refuse(BEYOND);
        }
        System.arraycopy(from.elements, i, to.elements, j, n);
        return 1;
    }

    public long element(int s, int i) {
        Shelf shelf = shelfAt(s);
        if (shelf == null || shelf.noRow() != 0 || !shelf.hasSpan(i, 1)) {
            return 0;
        }
        return shelf.elements[i];
    }

    public int show(int s, int pull) {
        Shelf shelf = shelfAt(s);
        if (shelf == null || (pull != NONE && now.pullAt(pull) == null)) {
            return refuse(NOBODY);
        }
        shelf.held = pull;
        return pull == NONE ? 0 : 1;
    }

    public int holds(int s) {
        Shelf shelf = shelfAt(s);
        return shelf == null ? NONE : shelf.held;
    }

    public int says(int s, int kind) {
        Shelf shelf = shelfAt(s);
        if (shelf == null || !within(kind, 0, KINDS - 1)) {
            return refuse(NOBODY);
        }
        if (shelf.held == NONE) {
            return refuse(NOTHING);
        }
        // A shelf with a row holds no pull's number, so it gets none here.
        Pull pull = now.pullAt(shelf.held);
        if (pull == null || !pull.isOf(kind)) {
            return refuse(OTHER);
        }
        switch (kind) {
            case PLAIN:
                return pull.takes;
            case HARD:
            case TEAR:
                return pull.step();
            case SLANT:
                return pull.waysAt(SAID_DEPTH_OF_SLANT, now.hurry);
            default:
                return pull.waysAt(SAID_DEPTH, now.hurry);
        }
    }

    public int pull(int kind, int a, int takes) {
        if (!within(kind, 0, KINDS - 1)) {
            return refuse(NOBODY);
        }
        if (!within(a, 0, MOST_A) || !within(takes, 1, MOST_TAKES)) {
            return refuse(WRONG);
        }
        if (now.pullCount >= MOST_PULLS) {
            return refuse(ROOM);
        }
        return now.addPull(kind, a, takes);
    }

    public int pullOf(int pull, int what) {
        Pull one = now.pullAt(pull);
        if (one == null) {
            return refuse(BEYOND);
        }
        switch (what) {
            case 0:
                return one.kind;
            case 1:
                return one.a;
            case 2:
                return one.takes;
            case 3:
                return one.step();
            case 4:
                return now.mayBe(one) ? 1 : 0;
            default:
                return refuse(BEYOND);
        }
    }

    public int teeth(int n) {
        if (!within(n, LEAST_TEETH, MOST_TEETH)) {
            return refuse(WRONG);
        }
        int before = now.zip.size;
        now.zip.renew(n);
        return before;
    }

    public int lack(int tooth, boolean is) {
        if (!now.zip.has(tooth)) {
            return refuse(NOBODY);
        }
        boolean before = now.zip.lacking[tooth];
        now.zip.lacking[tooth] = is;
        return before ? 1 : 0;
    }

    public int slack(int tooth, int v) {
        if (!now.zip.has(tooth)) {
            return refuse(NOBODY);
        }
        if (!within(v, 0, MOST_SLACK)) {
            return refuse(WRONG);
        }
        int before = now.zip.slacks[tooth];
        now.zip.slacks[tooth] = v;
        return before;
    }

    public int ask(int what, int v) {
        if (!within(what, 0, Jacket.NUMBERS - 1)
                || !within(v, Jacket.leastOf(what), now.mostOf(what))) {
            return refuse(WRONG);
        }
        int before = now.number(what);
        now.setNumber(what, v);
        return before;
    }

    public int jacket(int s) {
        Shelf shelf = shelfAt(s);
        if (shelf == null) {
            return refuse(NOBODY);
        }
        int no = shelf.noRow();
        if (no != 0) {
            return refuse(no);
        }
        latestFault = reader.read(shelf, now.zip.size, now.pullCount);
        if (latestFault != NONE) {
            return refuse(WRONG);
        }
        reader.tell(now);
        return reader.count;
    }

    public int fault() {
        return latestFault;
    }

    public int frees(int pull, int depth, int what) {
        Pull one = now.pullAt(pull);
        if (one == null) {
            return refuse(NOBODY);
        }
        if (!within(what, 0, 2)) {
            return refuse(BEYOND);
        }
        if (!within(depth, 1, DEEPEST)) {
            return refuse(WRONG);
        }
        if (what == 0) {
            return one.waysAt(depth, now.hurry);
        }
        return what == 1 ? one.shallower(depth) : one.deeper(depth, now.hurry);
    }

    public int cases(int n, int what) {
        if (!within(what, 0, 2)) {
            return refuseLower(BEYOND);
        }
        if (!within(n, 0, MOST_AHEAD)) {
            return refuseLower(WRONG);
        }
        ways.look(now, now.hurry, what != 2);
        if (what == 1) {
            return ways.next(n, now.depth, now.seconds);
        }
        return ways.most(n, now.depth, now.seconds);
    }

    public int line(int n, int what) {
        if (!within(what, 0, 1)) {
            return refuseLower(BEYOND);
        }
        if (!within(n, 0, MOST_AHEAD)) {
            return refuseLower(WRONG);
        }
        ways.look(now, now.hurry, true);
        if (what == 1) {
            return ways.first(n, now.depth, now.seconds);
        }
        return ways.least(n, now.depth, now.seconds);
    }

    public int haste(int n, int what) {
        if (!within(what, 0, 1)) {
            return refuse(BEYOND);
        }
        if (!within(n, 0, MOST_AHEAD)) {
            return refuse(WRONG);
        }
        if (what == 1) {
            return casesBy(MOST_HURRY, n) < casesBy(0, n) ? 1 : 0;
        }
        int best = 0;
        int most = casesBy(0, n);
        for (int hurry = 1; hurry <= MOST_HURRY; hurry++) {
            int found = casesBy(hurry, n);
            if (found > most) {
                most = found;
                best = hurry;
            }
        }
        return best;
    }

    public int freed(int s, int pull) {
        Shelf shelf = shelfAt(s);
        Pull one = now.pullAt(pull);
        if (shelf == null || one == null) {
            return refuse(NOBODY);
        }
        int no = shelf.noBelief();
        if (no != 0) {
            return refuse(no);
        }
        return freedWeight(shelf, one);
    }

    public int best(int s) {
        Shelf shelf = shelfAt(s);
        if (shelf == null) {
            return refuseLower(NOBODY);
        }
        int no = shelf.noBelief();
        if (no != 0) {
            return refuseLower(no);
        }
        int best = NONE;
        int most = NONE;
        for (int p = 0; p < now.pullCount; p++) {
            Pull one = now.pullAt(p);
            int found = one == null ? NONE : freedWeight(shelf, one);
            if (found > most) {
                most = found;
                best = p;
            }
        }
        return best;
    }

    public int behind(int s, int pull, int depth) {
        Shelf shelf = shelfAt(s);
        Pull one = now.pullAt(pull);
        if (shelf == null || one == null) {
            return refuse(NOBODY);
        }
        int no = shelf.noBelief();
        if (no != 0) {
            return refuse(no);
        }
        if (!within(depth, 0, DEEPEST)) {
            return refuse(WRONG);
        }
        int weight = depth == 0 ? shelf.tells(0) * ALL_WAYS : 0;
        for (int d = 1; d <= DEEPEST; d++) {
            int freeing = one.waysAt(d, now.hurry);
            if (one.shallower(d) == depth) {
                weight += shelf.tells(d) * freeing;
            }
            if (one.deeper(d, now.hurry) == depth) {
                weight += shelf.tells(d) * (ALL_WAYS - freeing);
            }
        }
        return weight;
    }

    public int strong(int what) {
        switch (what) {
            case 0:
                return now.zip.isStrong() ? 1 : 0;
            case 1:
                return now.zip.frailTeeth();
            case 2:
                return now.zip.spareTeeth();
            case 3:
                return now.zip.lackingTeeth();
            default:
                return refuse(BEYOND);
        }
    }

    public int catches(int i) {
        int found = now.zip.catchingTeeth(i);
        return found == NONE ? refuse(BEYOND) : found;
    }

    public int stitches(int i) {
        int found = now.zip.stitchesNeeded(i);
        return found == NONE ? refuse(BEYOND) : found;
    }

    public int judge(int s, int n) {
        Shelf shelf = shelfAt(s);
        if (shelf == null) {
            return refuseLower(NOBODY);
        }
        int no = shelf.noTelling(n);
        if (no != 0) {
            return refuseLower(no);
        }
        if (n > MOST_TOLD) {
            return refuseLower(WRONG);
        }
        return firstWrong(shelf, n);
    }

    public int meant(int s, int n, int i) {
        Shelf shelf = shelfAt(s);
        if (shelf == null) {
            return refuse(NOBODY);
        }
        int no = shelf.noTelling(n);
        if (no != 0) {
            return refuse(no);
        }
        // Only of a number of elements that may be is it asked whether there is an i-th.
        if (!within(n, 1, MOST_TOLD)) {
            return refuse(WRONG);
        }
        if (!within(i, NONE, n - 1)) {
            return refuse(BEYOND);
        }
        if (!shelf.tellsWithin(n, 0, DEEPEST)) {
            return refuse(WRONG);
        }
        int rows = rowsMeant(shelf, n);
        if (i == NONE) {
            return rows;
        }
        // The i-th pull is one of a whole row: where no row made all the depths, none made the i-th.
        if (rows == 0) {
            return refuse(BEYOND);
        }
        int from = i == 0 ? now.depth : shelf.tells(i - 1);
        return now.firstMaking(from, shelf.tells(i));
    }

    public int closed() {
        return now.zip.runsTo();
    }

    public int pulls(int pull) {
        Pull one = now.pullAt(pull);
        if (one == null) {
            return refuse(NOBODY);
        }
        if (!now.mayBe(one)) {
            return refuse(WRONG);
        }
        now.pullInTruth(one);
        return now.depth;
    }

    public int close() {
        if (now.depth != 0) {
            return refuse(WRONG);
        }
        now.closeInTruth();
        return now.zip.at;
    }

    public int winter(int n) {
        if (!within(n, 1, MOST_DAYS)) {
            return refuse(WRONG);
        }
        ways.look(now, now.hurry, true);
        int days = 0;
        for (int day = 0; day < n; day++) {
            if (now.dayInTruth(ways)) {
                days++;
            }
        }
        return days;
    }

    public int stitch(int tooth) {
        if (!now.zip.has(tooth)) {
            return refuse(NOBODY);
        }
        return now.zip.takeSlack(tooth);
    }

    public int seed(int v) {
        int before = now.seedNow;
        now.seedNow = v;
        return before;
    }

    public int act(int pull, int move, int x) {
        moves.ran = 0;
        Pull one = now.pullAt(pull);
        if (one == null || !within(move, 0, Moves.MOVES - 1)) {
            return 0;
        }
        return moves.begin(one, pull, move, x);
    }

    public int trace(int i) {
        return moves.bodyAt(i);
    }

    public int image() {
        kept.become(now);
        imaged = true;
        return kept.pullCount;
    }

    public int restore() {
        if (!imaged) {
            return refuse(WRONG);
        }
        now.become(kept);
        for (int s = 0; s < SHELVES; s++) {
            shelves[s].forgetFrom(now.pullCount);
        }
        return now.pullCount;
    }

    public int status(int what) {
        if (within(what, LOWER + 1, LOWER + REFUSAL_SORTS)) {
            return refusals[what - LOWER];
        }
        switch (what) {
            case 0:
                return now.pullCount;
            case 1:
                return now.zip.size;
            case 2:
                return now.zip.at;
            case 3:
                return now.depth;
            case 4:
                return now.torn;
            case 5:
                return now.seconds;
            case 6:
                return now.hurry;
            case 7:
                return now.zip.gap;
            case 8:
                return now.seedNow;
            case 9:
                return moves.ran;
            default:
                return NONE;
        }
    }

    private static boolean within(int v, int least, int most) {
        return v >= least && v <= most;
    }

    private int refuse(int no) {
        if (within(no, 1, REFUSAL_SORTS)) {
            refusals[no]++;
        }
        return -no;
    }

    private int refuseLower(int no) {
        return refuse(no) - LOWER;
    }

    private Shelf shelfAt(int s) {
        return within(s, 0, SHELVES - 1) ? shelves[s] : null;
    }

    private int casesBy(int hurry, int n) {
        ways.look(now, hurry, true);
        return ways.most(n, now.depth, now.seconds);
    }

    private int freedWeight(Shelf belief, Pull one) {
        int weight = belief.tells(0) * ALL_WAYS;
        for (int d = 1; d <= DEEPEST; d++) {
            weight += belief.tells(d) * one.waysAt(d, now.hurry);
        }
        return weight;
    }

    /** The first of n told pulls that is none or may not be, if the likelier comes of each. */
    private int firstWrong(Shelf told, int n) {
        int depth = now.depth;
        int seconds = now.seconds;
        for (int i = 0; i < n; i++) {
            Pull one = now.pullAt(told.tells(i));
            if (one == null || !one.mayBe(depth, seconds)) {
                return i;
            }
            boolean frees = one.waysAt(depth, now.hurry) >= ALL_WAYS / 2;
            depth = frees ? one.shallower(depth) : one.deeper(depth, now.hurry);
            seconds -= one.takes;
        }
        return NONE;
    }

    private int rowsMeant(Shelf told, int n) {
        int rows = 1;
        int from = now.depth;
        for (int i = 0; i < n; i++) {
            int to = told.tells(i);
            rows = Math.min(MOST_ROWS_MEANT, rows * now.pullsMaking(from, to));
            from = to;
        }
        return rows;
    }

    /** Holds nothing, a pull by its number, or a row; its room for a row is made once and used again. */
    private static final class Shelf {
        final long[] elements = new long[MOST_ELEMENTS];
        int held = NONE;
        int size = 0;

        void holdRow(int sort, int n) {
            held = ROW_OF + sort;
            size = n;
            Arrays.fill(elements, 0);
        }

        /** Pulls from this number on are no more. */
        void forgetFrom(int pullCount) {
            if (held >= pullCount && held < ROW_OF) {
                held = NONE;
            }
        }

        /** The refusal of what is held where a row is wanted, or 0. */
        int noRow() {
            if (held >= ROW_OF) {
                return 0;
            }
            return held == NONE ? NOTHING : OTHER;
        }

        /** The refusal of what is held where a belief is wanted, or 0. */
        int noBelief() {
            int no = noRow();
            if (no != 0) {
                return no;
            }
            if (size < DEPTHS) {
                return BEYOND;
            }
            return tellsWithin(DEPTHS, 0, MOST_WEIGHT) ? 0 : WRONG;
        }

        /** The refusal of what is held where n told elements are wanted, or 0. */
        int noTelling(int n) {
            int no = noRow();
            if (no != 0) {
                return no;
            }
            if (n < 0) {
                return BELOW;
            }
            return n > size ? BEYOND : 0;
        }

        boolean hasSpan(int i, int n) {
            return i >= 0 && n >= 0 && n <= size && i <= size - n;
        }

        void put(int i, long v) {
            switch (held - ROW_OF) {
                case 0:
                    elements[i] = (byte) v;
                    break;
                case 1:
                    elements[i] = (short) v;
                    break;
                case 2:
                    elements[i] = (int) v;
                    break;
                default:
                    elements[i] = v;
                    break;
            }
        }

        /** An element as whatever tells something by a row takes it. */
        int tells(int i) {
            return hasSpan(i, 1) ? (int) elements[i] : 0;
        }

        boolean tellsWithin(int n, int least, int most) {
            for (int i = 0; i < n; i++) {
                if (!within(tells(i), least, most)) {
                    return false;
                }
            }
            return true;
        }
    }

    private static final class Pull {
        final int kind;
        final int a;
        final int takes;

        Pull(int kind, int a, int takes) {
            this.kind = kind;
            this.a = a;
            this.takes = takes;
        }

        /** Whether it is of that kind or of one under it. */
        boolean isOf(int wanted) {
            int one = kind;
            for (int up = 0; up < KINDS && within(one, 0, KINDS - 1); up++) {
                if (one == wanted) {
                    return true;
                }
                one = ABOVE[one];
            }
            return false;
        }

        boolean mayBe(int depth, int seconds) {
            return depth >= 1 && seconds >= takes;
        }

        /** How many of 12 it frees at a depth of 1 at least. */
        int waysAt(int depth, int hurry) {
            if (kind == TEAR) {
                return ALL_WAYS;
            }
            return Math.max(0, Math.min(ALL_WAYS, calmWaysAt(depth) - hurry / 3));
        }

        /** Not yet held within 0 and 12, as hurry may still take some away. */
        int calmWaysAt(int depth) {
            switch (kind) {
                case GENTLE:
                    return 8 - depth / 4;
                case SMEARED:
                    return 8 - depth / 4 + a / 2;
                case HARD:
                    return 6 - depth / 4 + a / 3;
                case SLANT:
                    return 8 - depth / 6;
                case HELPED:
                    return 10 - depth / 6;
                default:
                    return 6 - depth / 4;
            }
        }

        int step() {
            switch (kind) {
                case HARD:
                    return 2 + a / 3;
                case SLANT:
                case HELPED:
                    return 2;
                case TEAR:
                    return 4;
                default:
                    return 1;
            }
        }

        /** The depth behind it if it frees. */
        int shallower(int depth) {
            return Math.max(0, depth - step());
        }

        /** The depth behind it if it doesn't free. */
        int deeper(int depth, int hurry) {
            if (kind == TEAR) {
                return depth;
            }
            int more = kind == HARD ? 1 + a / 3 : 0;
            if (hurry >= HASTY) {
                more++;
            }
            return Math.min(DEEPEST, depth + more);
        }

        /** Whether it may lead from one depth to the other, by any way that isn't 0 of 12. */
        boolean makes(int from, int to, int hurry) {
            if (from < 1) {
                return false;
            }
            int freeing = waysAt(from, hurry);
            return (freeing > 0 && shallower(from) == to)
                    || (freeing < ALL_WAYS && deeper(from, hurry) == to);
        }
    }

    /** The teeth, the lining's slack along them, and the runner. */
    private static final class Zip {
        final boolean[] lacking = new boolean[MOST_TEETH];
        final int[] slacks = new int[MOST_TEETH];
        int size = 20;
        int at = 0;
        int gap = 3;

        void renew(int n) {
            size = n;
            at = 0;
            for (int tooth = 0; tooth < MOST_TEETH; tooth++) {
                lacking[tooth] = false;
                slacks[tooth] = 0;
            }
        }

        void become(Zip other) {
            for (int tooth = 0; tooth < MOST_TEETH; tooth++) {
                lacking[tooth] = other.lacking[tooth];
                slacks[tooth] = other.slacks[tooth];
            }
            size = other.size;
            at = other.at;
            gap = other.gap;
        }

        boolean has(int tooth) {
            return tooth >= 0 && tooth < size;
        }

        boolean lacksAt(int tooth) {
            return has(tooth) && lacking[tooth];
        }

        boolean catchesAt(int tooth) {
            return has(tooth) && !lacking[tooth] && slacks[tooth] >= gap;
        }

        boolean lacksThreeFrom(int tooth) {
            return lacksAt(tooth) && lacksAt(tooth + 1) && lacksAt(tooth + 2);
        }

        boolean isStrong() {
            for (int tooth = 0; tooth < size; tooth++) {
                if (lacksThreeFrom(tooth)) {
                    return false;
                }
            }
            return true;
        }

        int frailTeeth() {
            if (!isStrong()) {
                return 0;
            }
            int count = 0;
            for (int tooth = 0; tooth < size; tooth++) {
                if (!lacking[tooth] && isFrail(tooth)) {
                    count++;
                }
            }
            return count;
        }

        boolean isFrail(int tooth) {
            boolean before = lacksAt(tooth - 1);
            boolean after = lacksAt(tooth + 1);
            return (before && lacksAt(tooth - 2)) || (before && after) || (after && lacksAt(tooth + 2));
        }

        /** Keeps, for 0, 1 or 2 lacking teeth just passed, how many could lack besides at most. */
        int spareTeeth() {
            if (!isStrong()) {
                return 0;
            }
            int never = -MOST_TEETH - 1;
            int afterNone = 0;
            int afterOne = never;
            int afterTwo = never;
            for (int tooth = 0; tooth < size; tooth++) {
                int besides = lacking[tooth] ? 0 : 1;
                int stays = Math.max(afterNone, Math.max(afterOne, afterTwo));
                afterTwo = afterOne + besides;
                afterOne = afterNone + besides;
                afterNone = lacking[tooth] ? never : stays;
            }
            return Math.max(afterNone, Math.max(afterOne, afterTwo));
        }

        int lackingTeeth() {
            int count = 0;
            for (int tooth = 0; tooth < size; tooth++) {
                if (lacking[tooth]) {
                    count++;
                }
            }
            return count;
        }

        /** How many teeth catch (for NONE), or the i-th; NONE if there is no i-th. */
        int catchingTeeth(int i) {
            int count = 0;
            for (int tooth = 0; tooth < size; tooth++) {
                if (catchesAt(tooth)) {
                    if (count == i) {
                        return tooth;
                    }
                    count++;
                }
            }
            return i == NONE ? count : NONE;
        }

        /** How many stitches (for NONE), or where the i-th is; NONE if there is no i-th. */
        int stitchesNeeded(int i) {
            int count = 0;
            int free = 0;
            for (int tooth = 0; tooth < size; tooth++) {
                if (tooth >= free && catchesAt(tooth)) {
                    int place = Math.min(tooth + 2, size - 1);
                    if (count == i) {
                        return place;
                    }
                    count++;
                    free = place + 3;
                }
            }
            return i == NONE ? count : NONE;
        }

        int takeSlack(int middle) {
            int taken = 0;
            for (int tooth = middle - 2; tooth <= middle + 2; tooth++) {
                if (has(tooth)) {
                    taken += slacks[tooth];
                    slacks[tooth] = 0;
                }
            }
            return taken;
        }

        /** Where the runner comes to by itself. */
        int runsTo() {
            for (int tooth = at; tooth < size; tooth++) {
                if (catchesAt(tooth) || lacksThreeFrom(tooth)) {
                    return tooth;
                }
            }
            return size;
        }
    }

    /** All that an image keeps. */
    private static final class Jacket {
        /** The numbers that are asked and told alike, in the order in which ask() counts them. */
        static final int DEPTH = 0;
        static final int SECONDS = 1;
        static final int HURRY = 2;
        static final int GAP = 3;
        static final int FIRST_COST = 4;
        static final int AT = 7;
        static final int NUMBERS = 8;

        static final int CLOSINGS_A_DAY = 3;
        static final int PULLS_A_CLOSING = 12;
        static final int PULLS_AHEAD = 2;
        static final int CATCHING_DRAW = 10;
        static final int CAUGHT_DRAW = 6;

        final Zip zip = new Zip();
        final Pull[] pulls = new Pull[MOST_PULLS];
        final int[] costs = {5, 10, 50};
        int pullCount = 0;
        int depth = 0;
        int torn = 0;
        int seconds = DAY_SECONDS;
        int hurry = 0;
        int seedNow = 1;

        void become(Jacket other) {
            zip.become(other.zip);
            for (int p = 0; p < MOST_PULLS; p++) {
                pulls[p] = other.pulls[p];
            }
            System.arraycopy(other.costs, 0, costs, 0, COSTS);
            pullCount = other.pullCount;
            depth = other.depth;
            torn = other.torn;
            seconds = other.seconds;
            hurry = other.hurry;
            seedNow = other.seedNow;
        }

        static int leastOf(int what) {
            return what == GAP ? 1 : 0;
        }

        int mostOf(int what) {
            switch (what) {
                case DEPTH:
                    return DEEPEST;
                case SECONDS:
                    return MOST_SECONDS;
                case HURRY:
                    return MOST_HURRY;
                case GAP:
                    return MOST_GAP;
                case AT:
                    return zip.size;
                default:
                    return MOST_COST;
            }
        }

        int number(int what) {
            switch (what) {
                case DEPTH:
                    return depth;
                case SECONDS:
                    return seconds;
                case HURRY:
                    return hurry;
                case GAP:
                    return zip.gap;
                case AT:
                    return zip.at;
                default:
                    return within(what - FIRST_COST, 0, COSTS - 1) ? costs[what - FIRST_COST] : 0;
            }
        }

        void setNumber(int what, int v) {
            switch (what) {
                case DEPTH:
                    depth = v;
                    break;
                case SECONDS:
                    seconds = v;
                    break;
                case HURRY:
                    hurry = v;
                    break;
                case GAP:
                    zip.gap = v;
                    break;
                case AT:
                    zip.at = v;
                    break;
                default:
                    if (within(what - FIRST_COST, 0, COSTS - 1)) {
                        costs[what - FIRST_COST] = v;
                    }
                    break;
            }
        }

        Pull pullAt(int p) {
            return within(p, 0, pullCount - 1) && p < MOST_PULLS ? pulls[p] : null;
        }

        int addPull(int kind, int a, int takes) {
            if (pullCount >= MOST_PULLS) {
                return NONE;
            }
            pulls[pullCount] = new Pull(kind, a, takes);
            return pullCount++;
        }

        boolean mayBe(Pull one) {
            return one.mayBe(depth, seconds);
        }

        int pullsMaking(int from, int to) {
            int count = 0;
            for (int p = 0; p < pullCount; p++) {
                Pull one = pullAt(p);
                if (one != null && one.makes(from, to, hurry)) {
                    count++;
                }
            }
            return count;
        }

        int firstMaking(int from, int to) {
            for (int p = 0; p < pullCount; p++) {
                Pull one = pullAt(p);
                if (one != null && one.makes(from, to, hurry)) {
                    return p;
                }
            }
            return NONE;
        }

        int draw(int n) {
            seedNow = seedNow * 1103515245 + 12345;
            return n < 1 ? 0 : (seedNow >>> 16) % n;
        }

        void pullInTruth(Pull one) {
            boolean frees = draw(ALL_WAYS) < one.waysAt(depth, hurry);
            depth = frees ? one.shallower(depth) : one.deeper(depth, hurry);
            seconds -= one.takes;
            if (one.kind == TEAR) {
                torn++;
            }
        }

        /** Only for a depth of 0. */
        void closeInTruth() {
            for (int tooth = zip.at; tooth < zip.size; tooth++) {
                zip.at = tooth;
                if (zip.catchesAt(tooth) && draw(CATCHING_DRAW) < zip.slacks[tooth] - zip.gap + 1) {
                    depth = 1 + draw(CAUGHT_DRAW);
                    return;
                }
                if (zip.lacksThreeFrom(tooth)) {
                    return;
                }
            }
            zip.at = zip.size;
        }

        /** Whether the runner came to the top on this day. */
        boolean dayInTruth(Ways ways) {
            zip.at = 0;
            depth = 0;
            seconds = DAY_SECONDS;
            for (int closing = 0; closing < CLOSINGS_A_DAY && depth == 0; closing++) {
                closeInTruth();
                if (zip.at == zip.size) {
                    return true;
                }
                pullFreeInTruth(ways);
            }
            return false;
        }

        void pullFreeInTruth(Ways ways) {
            for (int i = 0; i < PULLS_A_CLOSING && depth != 0; i++) {
                Pull one = pullAt(ways.next(PULLS_AHEAD, depth, seconds));
                if (one == null) {
                    return;
                }
                pullInTruth(one);
            }
        }
    }

    /** Looks ahead over pulls: by how many ways it's free, and what it costs at least. */
    private static final class Ways {
        /** 12 to the power of how many pulls. */
        static final int[] POWERS = {1, 12, 144, 1728, 20736};

        final int[] knownMost = new int[(MOST_AHEAD + 1) * DEPTHS];
        final int[] knownLeast = new int[(MOST_AHEAD + 1) * DEPTHS];
        final int[] costs = new int[COSTS];
        final Pull[] pulls = new Pull[MOST_PULLS];
        int count = 0;
        int hurry = 0;
        int longest = 0;

        /** Takes the pulls of a jacket, by some hurry, with its tears or without. */
        void look(Jacket jacket, int byHurry, boolean withTears) {
            count = jacket.pullCount;
            hurry = byHurry;
            longest = 0;
            for (int p = 0; p < count && p < MOST_PULLS; p++) {
                Pull one = jacket.pullAt(p);
                boolean left = one != null && (withTears || one.kind != TEAR);
                pulls[p] = left ? one : null;
                longest = left ? Math.max(longest, one.takes) : longest;
            }
            System.arraycopy(jacket.costs, 0, costs, 0, COSTS);
            Arrays.fill(knownMost, NONE);
            Arrays.fill(knownLeast, NONE);
        }

        Pull mayBeAt(int p, int depth, int seconds) {
            Pull one = within(p, 0, MOST_PULLS - 1) ? pulls[p] : null;
            return one != null && one.mayBe(depth, seconds) ? one : null;
        }

        /**
         * The cases. Not pulling is left out: it does no better than pulling the same things at once
         * and resting in the end. What is found with seconds enough for any n pulls is kept, as the
         * seconds don't matter to it.
         */
        private int most(int n, int depth, int seconds) {
            if (n < 0 || n > MOST_AHEAD || depth < 0 || depth > DEEPEST) {
                return 0;
            }
            if (depth == 0 || n == 0) {
                return depth == 0 ? POWERS[n] : 0;
            }
            boolean enough = seconds >= n * longest;
            int slot = n * DEPTHS + depth;
            if (enough && knownMost[slot] != NONE) {
                return knownMost[slot];
            }
            int most = 0;
            for (int p = 0; p < count; p++) {
                Pull one = mayBeAt(p, depth, seconds);
                if (one != null) {
                    most = Math.max(most, mostBy(one, n, depth, seconds));
                }
            }
            if (enough) {
                knownMost[slot] = most;
            }
            return most;
        }

        private int mostBy(Pull one, int n, int depth, int seconds) {
            int freeing = one.waysAt(depth, hurry);
            int left = seconds - one.takes;
            int cases = 0;
            if (freeing > 0) {
                cases += freeing * most(n - 1, one.shallower(depth), left);
            }
            if (freeing < ALL_WAYS) {
                cases += (ALL_WAYS - freeing) * most(n - 1, one.deeper(depth, hurry), left);
            }
            return cases;
        }

        /** The pull to begin the cases with, or NONE. */
        int next(int n, int depth, int seconds) {
            int best = NONE;
            int most = NONE;
            for (int p = 0; p < count && n > 0; p++) {
                Pull one = mayBeAt(p, depth, seconds);
                int found = one == null ? NONE : mostBy(one, n, depth, seconds);
                if (found > most) {
                    most = found;
                    best = p;
                }
            }
            return best;
        }

        /** The line; as with the cases, what doesn't depend on the seconds is kept. */
        private int least(int n, int depth, int seconds) {
            if (n < 0 || n > MOST_AHEAD || depth < 1 || depth > DEEPEST) {
                return 0;
            }
            boolean enough = seconds >= n * longest + HEAD_SECONDS;
            int slot = n * DEPTHS + depth;
            if (enough && knownLeast[slot] != NONE) {
                return knownLeast[slot];
            }
            int least = leastAtOnce(n, seconds);
            for (int p = 0; p < count && n > 0; p++) {
                Pull one = mayBeAt(p, depth, seconds);
                if (one != null) {
                    least = Math.min(least, leastBy(one, n, depth, seconds));
                }
            }
            if (enough) {
                knownLeast[slot] = least;
            }
            return least;
        }

        boolean headIsCheapest(int seconds) {
            return seconds >= HEAD_SECONDS && costs[COST_OF_HEAD] <= costs[COST_OF_MISS];
        }

        /** What it costs to pull no more. */
        int leastAtOnce(int n, int seconds) {
            return POWERS[n] * costs[headIsCheapest(seconds) ? COST_OF_HEAD : COST_OF_MISS];
        }

        private int leastBy(Pull one, int n, int depth, int seconds) {
            int freeing = one.waysAt(depth, hurry);
            int left = seconds - one.takes;
            int cost = one.kind == TEAR ? POWERS[n] * costs[COST_OF_TEAR] : 0;
            if (freeing > 0) {
                cost += freeing * least(n - 1, one.shallower(depth), left);
            }
            if (freeing < ALL_WAYS) {
                cost += (ALL_WAYS - freeing) * least(n - 1, one.deeper(depth, hurry), left);
            }
            return cost;
        }

        /** What the line begins with: the first pull that does as well as anything, then head, then miss. */
        int first(int n, int depth, int seconds) {
            if (depth == 0) {
                return NONE;
            }
            int least = least(n, depth, seconds);
            for (int p = 0; p < count && n > 0; p++) {
                Pull one = mayBeAt(p, depth, seconds);
                if (one != null && leastBy(one, n, depth, seconds) == least) {
                    return p;
                }
            }
            return headIsCheapest(seconds) ? HEAD : MISS;
        }
    }

    /** Reads a row of letters whole before anything of it is told, so that a fault changes nothing. */
    private static final class Reader {
        static final int TEETH = 0;
        static final int LACK = 1;
        static final int SLACK = 2;
        static final int PULL = 3;
        static final int DEPTH = 4;
        static final int SECONDS = 5;
        static final int HURRY = 6;
        static final int GAP = 7;
        static final int COST = 8;
        static final int AT = 9;
        static final int WORDS = 10;

        static final int DIGITS = 3;
        /** "at 0;" is the shortest item, so that no row has room for more. */
        static final int MOST_ITEMS = MOST_ELEMENTS / 5 + 1;
        /** An item's word and its numbers. */
        static final int WIDTH = 4;

        final int[] items = new int[MOST_ITEMS * WIDTH];
        final int[] letters = new int[MOST_ELEMENTS];
        int size = 0;
        int count = 0;
        int place = 0;
        int fault = NONE;
        int teeth = 0;
        int pulls = 0;

        /** The fault, or NONE: then the items are kept. */
        int read(Shelf row, int teethNow, int pullsNow) {
            takeLetters(row);
            teeth = teethNow;
            pulls = pullsNow;
            place = 0;
            fault = NONE;
            boolean more = true;
            for (count = 0; more && count < MOST_ITEMS; count++) {
                readItem(count * WIDTH);
                more = fault == NONE && place < size;
                if (more) {
                    expect(';');
                    more = fault == NONE;
                }
            }
            return fault;
        }

        void takeLetters(Shelf row) {
            size = Math.min(row.size, MOST_ELEMENTS);
            for (int i = 0; i < size; i++) {
                letters[i] = row.tells(i);
            }
        }

        void readItem(int slot) {
            int word = readWord();
            if (word == NONE) {
                return;
            }
            items[slot] = word;
            for (int k = 0; k < numbersOf(word); k++) {
                expect(' ');
                if (fault == NONE) {
                    items[slot + 1 + k] = readNumber(leastOf(word, k), mostOf(word, k));
                }
                if (fault != NONE) {
                    return;
                }
            }
            if (word == TEETH) {
                teeth = items[slot + 1];
            } else if (word == PULL) {
                pulls++;
            }
        }

        boolean stands(int i, char sign) {
            return i >= 0 && i < size && letters[i] == sign;
        }

        void expect(char sign) {
            if (stands(place, sign)) {
                place++;
            } else {
                fault = place;
            }
        }

        /** The word that stands whole at the place; none is the beginning of another one. */
        int readWord() {
            int furthest = 0;
            for (int word = 0; word < WORDS; word++) {
                String whole = wordAt(word);
                int standing = lettersStanding(whole);
                if (standing == whole.length()) {
                    return takeWord(word, standing);
                }
                furthest = Math.max(furthest, standing);
            }
            fault = place + furthest;
            return NONE;
        }

        int takeWord(int word, int length) {
            if (word == PULL && pulls >= MOST_PULLS) {
                fault = place;
                return NONE;
            }
            place += length;
            return word;
        }

        int lettersStanding(String word) {
            int standing = 0;
            while (standing < word.length() && stands(place + standing, word.charAt(standing))) {
                standing++;
            }
            return standing;
        }

        int readNumber(int least, int most) {
            int start = place;
            int v = 0;
            while (place < size && place < start + DIGITS && isDigit(letters[place])) {
                v = v * 10 + letters[place] - '0';
                place++;
            }
            if (place == start || !within(v, least, most)) {
                fault = start;
            }
            return v;
        }

        static boolean isDigit(int letter) {
            return letter >= '0' && letter <= '9';
        }

        static String wordAt(int word) {
            switch (word) {
                case TEETH:
                    return "teeth";
                case LACK:
                    return "lack";
                case SLACK:
                    return "slack";
                case PULL:
                    return "pull";
                case DEPTH:
                    return "depth";
                case SECONDS:
                    return "seconds";
                case HURRY:
                    return "hurry";
                case GAP:
                    return "gap";
                case COST:
                    return "cost";
                default:
                    return "at";
            }
        }

        static int numbersOf(int word) {
            switch (word) {
                case PULL:
                    return 3;
                case SLACK:
                case COST:
                    return 2;
                default:
                    return 1;
            }
        }

        static int leastOf(int word, int k) {
            if (word == TEETH) {
                return LEAST_TEETH;
            }
            return word == GAP || (word == PULL && k == 2) ? 1 : 0;
        }

        int mostOf(int word, int k) {
            switch (word) {
                case TEETH:
                    return MOST_TEETH;
                case LACK:
                    return teeth - 1;
                case SLACK:
                    return k == 0 ? teeth - 1 : MOST_SLACK;
                case PULL:
                    return k == 0 ? KINDS - 1 : k == 1 ? MOST_A : MOST_TAKES;
                case DEPTH:
                    return DEEPEST;
                case SECONDS:
                    return MOST_SECONDS;
                case HURRY:
                    return MOST_HURRY;
                case GAP:
                    return MOST_GAP;
                case COST:
                    return k == 0 ? COSTS - 1 : MOST_COST;
                default:
                    return teeth;
            }
        }

        void tell(Jacket jacket) {
            for (int i = 0; i < count; i++) {
                tellItem(jacket, i * WIDTH);
            }
        }

        void tellItem(Jacket jacket, int slot) {
            int first = items[slot + 1];
            int second = items[slot + 2];
            switch (items[slot]) {
                case TEETH:
                    jacket.zip.renew(first);
                    break;
                case LACK:
                    jacket.zip.lacking[first] = true;
                    break;
                case SLACK:
                    jacket.zip.slacks[first] = second;
                    break;
                case PULL:
                    jacket.addPull(first, second, items[slot + 3]);
                    break;
                case COST:
                    jacket.costs[first] = second;
                    break;
                case AT:
                    jacket.zip.at = first;
                    break;
                default:
                    // Depth, seconds, hurry and gap stand in the same order as with ask().
                    jacket.setNumber(items[slot] - DEPTH, first);
                    break;
            }
        }
    }

    /** Runs the bodies of moves, and keeps which ones ran. */
    private static final class Moves {
        static final int PULLS = 0;
        static final int FREES = 1;
        static final int RESTS = 2;
        static final int MOVES = 3;
        static final int TRACED = 20;
        static final int DEEPEST_CALL = 40;

        final int[] bodies = new int[TRACED];
        int ran = 0;
        int kind = 0;
        int m = 0;
        int k = 0;

        int begin(Pull one, int number, int move, int x) {
            kind = one.kind;
            m = number;
            k = one.a;
            return run(kind, move, x, 0);
        }

        int bodyAt(int i) {
            return within(i, 0, Math.min(ran, TRACED) - 1) ? bodies[i] : NONE;
        }

        void note(int body) {
            if (ran < TRACED) {
                bodies[ran] = body;
            }
            ran++;
        }

        /** Runs the body of the kind, or of the next one above that has one. */
        private int run(int from, int move, int x, int open) {
            int body = bodyFor(from, move);
            if (body == NONE || open >= DEEPEST_CALL) {
                return 0;
            }
            note(body);
            int deep = open + 1;
            switch (body) {
                case 10:
                    return x + m;
                case 11:
                    return run(kind, PULLS, x, deep) * 2;
                case 12:
                    return run(kind, FREES, x, deep) ^ run(kind, PULLS, x - k, deep);
                case 20:
                    return run(PLAIN, PULLS, x, deep) + k;
                case 30:
                    return run(PLAIN, FREES, x, deep) * 3;
                case 40:
                    return run(GENTLE, FREES, x + 1, deep);
                case 50:
                    return -run(PLAIN, RESTS, x, deep);
                case 51:
                    return run(PLAIN, PULLS, x, deep) - m;
                case 60:
                    return run(HARD, RESTS, x, deep) ^ 5;
                case 70:
                    return run(SLANT, PULLS, x, deep) * 2;
                default:
                    return run(SLANT, FREES, x - k, deep);
            }
        }

        static int bodyFor(int from, int move) {
            int one = from;
            for (int up = 0; up < KINDS && within(one, 0, KINDS - 1); up++) {
                int body = ownBody(one, move);
                if (body != NONE) {
                    return body;
                }
                one = ABOVE[one];
            }
            return NONE;
        }

        static int ownBody(int kind, int move) {
            switch (kind) {
                case PLAIN:
                    return 10 + move;
                case GENTLE:
                    return move == PULLS ? 20 : NONE;
                case HARD:
                    return move == FREES ? 30 : NONE;
                case SMEARED:
                    return move == FREES ? 40 : NONE;
                case SLANT:
                    return move == RESTS ? 50 : move == PULLS ? 51 : NONE;
                case TEAR:
                    return move == RESTS ? 60 : NONE;
                default:
                    return move == PULLS ? 70 : move == FREES ? 71 : NONE;
            }
        }
    }
}
