/** Promise 16. */
public final class StateTest {
    private static final Checks CHECKS = new Checks("StateTest");

    public static void main(String[] args) {
        RopewayDesk desk = new RopewayDesk();
        due(desk, 0, 0, 60, 0, 0, 0, 0, 0, 0, 0);
        desk.drive(4);
        desk.plan(450);
        Scenes.report(desk, 100, 120);
        Scenes.bringRow(desk, 0, 3);
        desk.putOn(1, 1);
        desk.tick(3);
        due(desk, 3, 4, 30, 120, 2, 0, 1, 0, 3, 0);
        Scenes.ticks(desk, 117);
        desk.gauge(1, 9000, 9000);
        desk.tick(1);
        desk.pulse(500);
        due(desk, 4, 4, 30, 120, 2, 1, 0, 1, 121, 500);
        Scenes.toRope(desk, 0, 0);
        Scenes.toZone5(desk, 0, 2);
        due(desk, 4, 4, 30, 120, 0, 2, 1, 2, 242, 500);
        Scenes.pulses(desk, 5200);
        due(desk, 4, 4, 30, 120, 0, 1, 2, 2, 242, 5700);
        Scenes.ticks(desk, 120);
        desk.gauge(0, 9000, 9000);
        desk.tick(1);
        CHECKS.due("state(7)", desk.state(7), 3);
        for (int what : new int[] {-1, 10, Integer.MIN_VALUE, Integer.MAX_VALUE}) {
            CHECKS.due("state(" + what + ")", desk.state(what), -1);
        }
        CHECKS.end();
    }

    private static void due(RopewayDesk desk, int... want) {
        for (int what = 0; what < want.length; what++) {
            CHECKS.due("state(" + what + ")", desk.state(what), want[what]);
        }
    }
}
