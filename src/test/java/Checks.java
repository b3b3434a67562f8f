/** Counts the checks of a test and tells those that fail. */
final class Checks {
    private int right = 0;
    private int wrong = 0;

    void due(String call, long got, long want) {
        if (got == want) {
            right++;
            return;
        }
        wrong++;
        System.out.println(call + " answered " + got + ", due is " + want);
    }

    void due(String call, String got, String want) {
        if (got.equals(want)) {
            right++;
            return;
        }
        wrong++;
        System.out.println(call + " gave\n  " + got + "\ndue is\n  " + want);
    }

    void isTrue(String what, boolean holds) {
        if (holds) {
            right++;
            return;
        }
        wrong++;
        System.out.println("does not hold: " + what);
    }

    boolean hasFailed() {
        return wrong > 0;
    }

    /** Ends the test with exit code 1 if a check failed. */
    void end() {
        System.out.println(right + " checks held, " + wrong + " did not");
        if (wrong > 0 || right == 0) {
            System.exit(1);
        }
    }
}
