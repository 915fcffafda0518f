/** Counts the answers of a test that are not the ones that are due. */
final class Check {
    private static final int MOST_TOLD = 50;

    private final String test;
    private int checked;
    private int wrong;

    Check(String test) {
        this.test = test;
    }

    void due(String call, long got, long want) {
        checked++;
        if (got != want) {
            wrong++;
            if (wrong <= MOST_TOLD) {
                System.out.println(test + ": " + call + " answered " + got + ", due is " + want);
            }
        }
    }

    void holds(String what, boolean it) {
        due(what, it ? 1 : 0, 1);
    }

    /** Tells the outcome, and ends with exit code 1 if something was wrong. */
    void end() {
        System.out.println(test + ": " + checked + " answers, " + wrong + " not as due");
        if (wrong > 0 || checked == 0) {
            System.exit(1);
        }
    }
}
