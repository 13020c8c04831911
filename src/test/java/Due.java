/** Compares answers with those that are due, and ends a test with exit code 1 if one was not. */
final class Due {
    private final String test;
    private int asked = 0;
    private int wrong = 0;

    Due(String test) {
        this.test = test;
    }

    void is(String call, long got, long want) {
        asked++;
        if (got != want) {
            wrong++;
            if (wrong <= 50) {
                System.out.println(test + ": " + call + " answered " + got + ", due is " + want);
            }
        }
    }

    void end() {
        System.out.println(test + ": " + asked + " answers, " + wrong + " not as due");
        if (wrong != 0 || asked == 0) {
            System.exit(1);
        }
    }

    /** A row of bytes with the letters of a text. */
    static void text(TheLiningsInIt x, int s, String text) {
        x.row(s, 0, text.length());
        for (int i = 0; i < text.length(); i++) {
            x.set(s, i, text.charAt(i));
        }
    }

    /** A row of ints. */
    static void ints(TheLiningsInIt x, int s, int... row) {
        x.row(s, 2, row.length);
        for (int i = 0; i < row.length; i++) {
            x.set(s, i, row[i]);
        }
    }
}
