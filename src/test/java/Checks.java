/** Counts and prints the answers that are not due; a test's main method ends with end(). */
final class Checks {
    interface Call {
        void run();
    }

    private final String test;
    private int made = 0;
    private int wrong = 0;

    Checks(String test) {
        this.test = test;
    }

    void due(String call, long got, long want) {
        made++;
        if (got != want) {
            wrong++;
            System.out.println(test + ": " + call + " answered " + got + ", due is " + want);
        }
    }

    void yes(String call, boolean got) {
        due(call, got ? 1 : 0, 1);
    }

    void no(String call, boolean got) {
        due(call, got ? 1 : 0, 0);
    }

    /** The class itself is asked for, as a subclass of it would be another exception. */
    void refused(String call, Call run) {
        made++;
        String got = "nothing";
        try {
            run.run();
        } catch (RuntimeException e) {
            got = e.getClass().getSimpleName();
        }
        if (!got.equals("IllegalArgumentException")) {
            wrong++;
            System.out.println(test + ": " + call + " threw " + got + ", due is IllegalArgumentException");
        }
    }

    void end() {
        System.out.println(test + ": " + made + " answers looked at, " + wrong + " not as due");
        if (wrong != 0) {
            System.exit(1);
        }
    }
}
