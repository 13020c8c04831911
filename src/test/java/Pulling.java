/** What the document tells of a pull, worked out apart from the program. */
final class Pulling {
    static final int[] ABOVE = {-1, 0, 0, 1, 0, 2, 4};

    final int kind;
    final int a;
    final int takes;

    Pulling(int kind, int a, int takes) {
        this.kind = kind;
        this.a = a;
        this.takes = takes;
    }

    int ways(int d, int hurry) {
        if (kind == 5) {
            return 12;
        }
        int plain = 6 - d / 4;
        int gentle = plain + 2;
        int slant = 8 - d / 6;
        int[] by = {plain, gentle, plain + a / 3, gentle + a / 2, slant, 12, slant + 2};
        int ways = by[kind] - hurry / 3;
        return ways < 0 ? 0 : ways > 12 ? 12 : ways;
    }

    int step() {
        int[] by = {1, 1, 2 + a / 3, 1, 2, 4, 2};
        return by[kind];
    }

    int freed(int d) {
        return d - step() < 0 ? 0 : d - step();
    }

    int stuck(int d, int hurry) {
        int[] by = {0, 0, 1 + a / 3, 0, 0, 0, 0};
        int more = by[kind] + (hurry >= 6 && kind != 5 ? 1 : 0);
        return d + more > 24 ? 24 : d + more;
    }

    boolean may(int d, int seconds) {
        return d > 0 && seconds >= takes;
    }

    boolean under(int wanted) {
        for (int one = kind; one >= 0; one = ABOVE[one]) {
            if (one == wanted) {
                return true;
            }
        }
        return false;
    }
}
