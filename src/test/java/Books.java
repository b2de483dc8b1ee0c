import java.util.function.Supplier;

/** All that can be asked of a desk, as one row of answers. */
final class Books {
    private static final int GAPS = 60 * 8;
    private static final int PLACES = GAPS + 60;
    private static final int STATES = PLACES + 20;
    private static final int LOCKS = STATES + 10;
    private static final int QUESTIONS = LOCKS + 1;

    /** An object is good for 512 calls, fewer than there are questions, and its scene takes some. */
    private static final int QUESTIONS_TO_ONE_DESK = 200;

    private Books() {
    }

    static int[] of(Supplier<RopewayDesk> scene) {
        int[] answers = new int[QUESTIONS];
        RopewayDesk desk = scene.get();
        for (int i = 0; i < QUESTIONS; i++) {
            if (i > 0 && i % QUESTIONS_TO_ONE_DESK == 0) {
                desk = scene.get();
            }
            answers[i] = ask(desk, i);
        }
        return answers;
    }

    private static int ask(RopewayDesk desk, int question) {
        if (question < GAPS) {
            return desk.where(question / 8, question % 8);
        }
        if (question < PLACES) {
            return desk.gap(question - GAPS);
        }
        if (question < STATES) {
            return desk.sided(question - PLACES);
        }
        return question < LOCKS ? desk.state(question - STATES) : desk.locks();
    }

    static String written(int question) {
        if (question < GAPS) {
            return "where(" + question / 8 + ", " + question % 8 + ")";
        }
        if (question < PLACES) {
            return "gap(" + (question - GAPS) + ")";
        }
        if (question < STATES) {
            return "sided(" + (question - PLACES) + ")";
        }
        return question < LOCKS ? "state(" + (question - STATES) + ")" : "locks()";
    }
}
