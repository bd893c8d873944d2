/** Counts answers that are not as due, and ends a test with them. */
final class Checks {
    private static final int MOST_PRINTED = 50;
    private final String test;
    private int made = 0;
    private int wrong = 0;

    Checks(String test) {
        this.test = test;
    }

    void due(String what, long got, long want) {
        made++;
        if (got != want) {
            fail(what + " answered " + got + ", due is " + want);
        }
    }

    void holds(String what, boolean holds) {
        made++;
        if (!holds) {
            fail(what);
        }
    }

    private void fail(String text) {
        wrong++;
        if (wrong <= MOST_PRINTED) {
            System.out.println(test + ": " + text);
        }
    }

    void end() {
        System.out.println(test + ": " + made + " checks, " + wrong + " wrong");
        if (wrong != 0 || made == 0) {
            System.exit(1);
        }
    }
}
