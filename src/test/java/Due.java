/** Counts the answers of one test that are not as due, and ends the test. */
final class Due {
    private static int asked = 0;
    private static int wrong = 0;

    private Due() {
    }

    static void due(String call, long got, long want) {
        asked++;
        if (got != want) {
            wrong++;
            System.out.println(call + " answered " + got + ", due is " + want);
        }
    }

    static void isTrue(String claim, boolean holds) {
        asked++;
        if (!holds) {
            wrong++;
            System.out.println("does not hold: " + claim);
        }
    }

    /** Ends the test: with exit code 1 if an answer was wrong, or if none was asked for. */
    static void end() {
        System.out.println(asked + " answers, " + wrong + " not as due");
        if (wrong > 0 || asked == 0) {
            System.exit(1);
        }
    }
}
