/** Promise 5, and the term WIND. */
public final class WindTest {
    private static final Checks CHECKS = new Checks("WindTest");
    private static final Refusals REFUSALS = new Refusals(CHECKS);

    public static void main(String[] args) {
        wrongInputs();
        withoutAny();
        fewerThanFive();
        lastFive();
        everyOrderOfFive();
        windIsReportedUnderALock();
        CHECKS.end();
    }

    private static void wrongInputs() {
        CHECKS.sentence("IllegalArgumentException: it is not 0 .. 1,000.");
        REFUSALS.beyond("wind", 0, 1000, RopewayDesk::wind);
        RopewayDesk desk = new RopewayDesk();
        desk.wind(1000);
        CHECKS.due("state(3) after wind(1000)", desk.state(3), 1000);
        RopewayDesk still = new RopewayDesk();
        still.wind(0);
        CHECKS.due("state(3) after wind(0)", still.state(3), 0);
        still.wind(7);
        CHECKS.due("state(3) of 0 and 7", still.state(3), 7);
        still.wind(0);
        CHECKS.due("state(3) of 0, 7 and 0", still.state(3), 0);
    }

    private static void withoutAny() {
        CHECKS.sentence("0 without any.");
        RopewayDesk desk = new RopewayDesk();
        CHECKS.due("state(3)", desk.state(3), 0);
        desk.drive(5);
        CHECKS.due("tick(9)", desk.tick(9), 5);
        CHECKS.due("locks()", desk.locks(), 0);
    }

    private static void fewerThanFive() {
        CHECKS.sentence("(or all, if there are fewer) by their size, the one in the middle (of an even number the greater of the two there)");
        int[][] reportsAndWind = {
            {30, 30}, {0, 0}, {1000, 1000},
            {30, 10, 30}, {10, 30, 30}, {7, 7, 7},
            {30, 10, 20, 20}, {10, 20, 30, 20}, {20, 30, 10, 20}, {5, 5, 9, 5}, {9, 5, 9, 9},
            {40, 10, 30, 20, 30}, {10, 20, 30, 40, 30}, {40, 30, 20, 10, 30}, {20, 10, 40, 30, 30}, {9, 1, 1, 1, 1},
        };
        for (int[] row : reportsAndWind) {
            RopewayDesk desk = new RopewayDesk();
            for (int i = 0; i < row.length - 1; i++) {
                desk.wind(row[i]);
            }
            CHECKS.due("state(3) after " + (row.length - 1), desk.state(3), row[row.length - 1]);
        }
    }

    private static void lastFive() {
        CHECKS.sentence("The WIND is, of the last five reports");
        RopewayDesk desk = new RopewayDesk();
        int[][] reportAndWind = {
            {30, 30}, {10, 30}, {20, 20}, {5, 20}, {40, 20},
            {1, 10}, {1, 5}, {1000, 5}, {1000, 40}, {1000, 1000}, {0, 1000}, {0, 1000}, {0, 0},
        };
        for (int[] row : reportAndWind) {
            desk.wind(row[0]);
            CHECKS.due("state(3) after wind(" + row[0] + ")", desk.state(3), row[1]);
        }
        RopewayDesk round = new RopewayDesk();
        for (int speed = 1; speed <= 200; speed++) {
            round.wind(speed);
            CHECKS.due("state(3) going up", round.state(3), speed < 5 ? speed / 2 + 1 : speed - 2);
        }
    }

    private static void everyOrderOfFive() {
        CHECKS.sentence("by their size, the one in the middle");
        int[] speeds = new int[5];
        for (int code = 0; code < 3125; code++) {
            int rest = code;
            int used = 0;
            for (int i = 0; i < 5; i++) {
                speeds[i] = rest % 5;
                used |= 1 << speeds[i];
                rest /= 5;
            }
            if (used == 31) {
                RopewayDesk desk = new RopewayDesk();
                Scenes.report(desk, 900, 900, 900);
                Scenes.report(desk, speeds);
                CHECKS.due("state(3) of 0 .. 4 in order " + code, desk.state(3), 2);
            }
        }
    }

    private static void windIsReportedUnderALock() {
        CHECKS.sentence("A report of the wind.");
        for (int code = 0; code < 4; code++) {
            RopewayDesk desk = Scenes.locked(code);
            Scenes.report(desk, 33, 33);
            CHECKS.due("state(3) with lock " + code, desk.state(3), 33);
        }
    }
}
