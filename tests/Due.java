/** Counts the answers of one test that are not the ones that are due. */
final class Due {
    private int asked = 0;
    private int wrong = 0;

    void is(String what, long got, long want) {
        asked++;
        if (got != want) {
            wrong++;
            System.out.println(what + " answered " + got + ", due is " + want);
        }
    }

    void is(String what, String got, String want) {
        asked++;
        if (!got.equals(want)) {
            wrong++;
            System.out.println(what + " answered [" + got + "], due is [" + want + "]");
        }
    }

    void yes(String what, boolean got) {
        is(what, got ? 1 : 0, 1);
    }

    void no(String what, boolean got) {
        is(what, got ? 1 : 0, 0);
    }

    /** Ends the test: with exit code 1 if an answer was wrong. */
    void close() {
        System.out.println(asked + " answers asked, " + wrong + " wrong");
        if (wrong != 0 || asked == 0) {
            System.exit(1);
        }
    }
}
