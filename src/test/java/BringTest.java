/** Promise 7. */
public final class BringTest {
    private static final Checks CHECKS = new Checks("BringTest");

    public static void main(String[] args) {
        comesToTheEnd();
        onlyOneThatIsAway();
        atMostTwenty();
        wrongInputs();
        CHECKS.end();
    }

    private static void comesToTheEnd() {
        RopewayDesk desk = new RopewayDesk();
        CHECKS.yes("bring(59)", desk.bring(59));
        CHECKS.yes("bring(0)", desk.bring(0));
        CHECKS.yes("bring(30)", desk.bring(30));
        CHECKS.due("sided(0)", desk.sided(0), 59);
        CHECKS.due("sided(1)", desk.sided(1), 0);
        CHECKS.due("sided(2)", desk.sided(2), 30);
        CHECKS.due("where(30, 0)", desk.where(30, 0), 1);
        CHECKS.due("where(30, 1)", desk.where(30, 1), 2);
        CHECKS.due("state(4)", desk.state(4), 3);
    }

    private static void onlyOneThatIsAway() {
        RopewayDesk desk = new RopewayDesk();
        desk.bring(1);
        CHECKS.no("bring of one in the siding", desk.bring(1));
        desk.putOn(0, 1);
        CHECKS.no("bring of one in a zone", desk.bring(1));
        Scenes.ticks(desk, 120);
        desk.gauge(0, 9000, 9000);
        desk.tick(1);
        CHECKS.due("where(1, 0)", desk.where(1, 0), 3);
        CHECKS.no("bring of one on the rope", desk.bring(1));
        CHECKS.due("state(4)", desk.state(4), 0);
    }

    private static void atMostTwenty() {
        RopewayDesk desk = new RopewayDesk();
        for (int i = 0; i < 20; i++) {
            CHECKS.yes("bring of number " + i, desk.bring(2 * i));
        }
        CHECKS.no("bring of one too many", desk.bring(59));
        CHECKS.due("where(59, 0)", desk.where(59, 0), 0);
        CHECKS.due("state(4)", desk.state(4), 20);
        CHECKS.due("locks()", desk.locks(), 0);
        desk.putOn(0, 0);
        CHECKS.yes("bring when there is room", desk.bring(59));
        CHECKS.due("sided(19)", desk.sided(19), 59);
        CHECKS.due("sided(0)", desk.sided(0), 2);
    }

    private static void wrongInputs() {
        RopewayDesk desk = new RopewayDesk();
        for (int cabin : new int[] {-1, 60, Integer.MIN_VALUE, Integer.MAX_VALUE}) {
            CHECKS.refused("bring(" + cabin + ")", () -> desk.bring(cabin));
        }
        CHECKS.due("state(4) after wrong inputs", desk.state(4), 0);
        Scenes.bringRow(desk, 0, 20);
        CHECKS.refused("bring(60) without room", () -> desk.bring(60));
    }
}
