/** Compares answers with those that are due, prints the wrong ones, and ends a test. */
final class Due {
    private static final int MOST_PRINTED = 40;

    private int asked;
    private int wrong;

    void is(String call, long got, long want) {
        is(call, String.valueOf(got), String.valueOf(want));
    }

    void is(String call, String got, String want) {
        asked++;
        if (!got.equals(want)) {
            wrong++;
            if (wrong <= MOST_PRINTED) {
                System.out.println(call + " answered\n" + got + "\ndue is\n" + want);
            }
        }
    }

    /** Ends the test with exit code 1 if an answer was wrong. */
    void end() {
        System.out.println(asked + " answers, " + wrong + " not as due");
        if (wrong != 0 || asked == 0) {
            System.exit(1);
        }
    }
}
