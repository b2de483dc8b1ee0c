/** Promise 5, and the term WIND. */
public final class WindTest {
    private static final Checks CHECKS = new Checks("WindTest");

    public static void main(String[] args) {
        RopewayDesk desk = new RopewayDesk();
        CHECKS.due("state(3) without a report", desk.state(3), 0);
        int[][] reportAndWind = {
            {30, 30}, {10, 30}, {20, 20}, {5, 20}, {40, 20},
            {1, 10}, {1, 5}, {1000, 5}, {1000, 40}, {1000, 1000}, {0, 1000}, {0, 1000}, {0, 0},
        };
        for (int[] row : reportAndWind) {
            desk.wind(row[0]);
            CHECKS.due("state(3) after wind(" + row[0] + ")", desk.state(3), row[1]);
        }
        wrongInputsAreNotReports();
        everyOrderOfFive();
        CHECKS.end();
    }

    private static void wrongInputsAreNotReports() {
        RopewayDesk desk = new RopewayDesk();
        desk.wind(7);
        for (int speed : new int[] {-1, 1001, Integer.MIN_VALUE, Integer.MAX_VALUE}) {
            CHECKS.refused("wind(" + speed + ")", () -> desk.wind(speed));
        }
        CHECKS.due("state(3) after wrong inputs", desk.state(3), 7);
        desk.wind(3);
        CHECKS.due("state(3) of two", desk.state(3), 7);
    }

    private static void everyOrderOfFive() {
        int[] speeds = new int[5];
        for (int code = 0; code < 3125; code++) {
            int rest = code;
            int used = 0;
            for (int i = 0; i < 5; i++) {
                speeds[i] = rest % 5;
                used |= 1 << speeds[i];
                rest /= 5;
            }
            if (used == 31) {
                RopewayDesk desk = new RopewayDesk();
                Scenes.report(desk, 900, 900, 900);
                Scenes.report(desk, speeds);
                CHECKS.due("state(3) of 0 .. 4 in order " + code, desk.state(3), 2);
            }
        }
    }
}
