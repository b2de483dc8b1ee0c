import java.util.HashSet;
import java.util.Set;

/** Counts and prints the answers that are not due; a test's main method ends with end(). */
final class Checks {
    interface Call {
        void run();
    }

    private final String test;
    private String sentence = "";
    private final Set<String> sentences = new HashSet<>();
    private int made = 0;
    private int wrong = 0;

    Checks(String test) {
        this.test = test;
    }

    /** The words of the document that the answers looked at from here on belong to. */
    void sentence(String words) {
        sentence = " (\"" + words + "\")";
        sentences.add(words);
    }

    void due(String call, long got, long want) {
        made++;
        if (got != want) {
            print(call + " answered " + got + ", due is " + want);
        }
    }

    void yes(String call, boolean got) {
        due(call, got ? 1 : 0, 1);
    }

    void no(String call, boolean got) {
        due(call, got ? 1 : 0, 0);
    }

    /** The class itself is asked for, as a subclass of it would be another exception. */
    void refused(String call, Call run) {
        made++;
        String got = thrownBy(run);
        if (!got.equals("IllegalArgumentException")) {
            print(call + " threw " + got + ", due is IllegalArgumentException");
        }
    }

    void taken(String call, Call run) {
        made++;
        String got = thrownBy(run);
        if (!got.equals("nothing")) {
            print(call + " threw " + got + ", due is an answer");
        }
    }

    /** The answers of where(cabin, 0), where(cabin, 1) .. in a row. */
    void where(String when, RopewayDesk desk, int cabin, int... want) {
        for (int what = 0; what < want.length; what++) {
            due("where(" + cabin + ", " + what + ") " + when, desk.where(cabin, what), want[what]);
        }
    }

    /** The answers of state(0), state(1) .. in a row. */
    void state(String when, RopewayDesk desk, int... want) {
        for (int what = 0; what < want.length; what++) {
            due("state(" + what + ") " + when, desk.state(what), want[what]);
        }
    }

    void end() {
        System.out.println(test + ": " + sentences.size() + " sentences, " + made + " answers looked at, " + wrong + " not as due");
        if (wrong != 0) {
            System.exit(1);
        }
    }

    private void print(String fault) {
        wrong++;
        System.out.println(test + ": " + fault + sentence);
    }

    private static String thrownBy(Call run) {
        try {
            run.run();
        } catch (RuntimeException e) {
            return e.getClass().getSimpleName();
        }
        return "nothing";
    }
}
