/** Compares answers with those that are due, for the tests of the project. */
final class Due {
    private static final int MOST_PRINTED = 40;

    private final String test;
    private int asked = 0;
    private int wrong = 0;

    Due(String test) {
        this.test = test;
    }

    void same(String call, long got, long want) {
        asked++;
        if (got != want) {
            wrong++;
            if (wrong <= MOST_PRINTED) {
                System.out.println(test + ": " + call + " answered " + got + ", due is " + want);
            }
        }
    }

    void holds(String what, boolean held) {
        same(what, held ? 1 : 0, 1);
    }

    boolean isWrong() {
        return wrong > 0;
    }

    /** Ends the test: a test that asked nothing has failed too. */
    void finish() {
        System.out.println(test + ": " + asked + " answers, " + wrong + " not as due");
        if (wrong > 0 || asked == 0) {
            System.exit(1);
        }
    }
}
