/** Promise 13. */
public final class WhereTest {
    private static final Checks CHECKS = new Checks("WhereTest");

    public static void main(String[] args) {
        everyPlace();
        doors();
        tripsAndFaults();
        othersAndWrongInputs();
        CHECKS.end();
    }

    private static void due(RopewayDesk desk, int cabin, int... want) {
        for (int what = 0; what < want.length; what++) {
            CHECKS.due("where(" + cabin + ", " + what + ")", desk.where(cabin, what), want[what]);
        }
    }

    private static void everyPlace() {
        RopewayDesk desk = new RopewayDesk();
        due(desk, 8, 0, -1, -1, -1, -1, 0, 0, 0);
        Scenes.bringRow(desk, 7, 2);
        due(desk, 7, 1, 0, -1, -1, -1, 0, 0, 0);
        due(desk, 8, 1, 1, -1, -1, -1, 0, 0, 0);
        desk.putOn(1, 8);
        due(desk, 8, 2, 5, 1, 0, -1, 0, 0, 0);
        Scenes.ticks(desk, 119);
        due(desk, 8, 2, 12, 1, 14, -1, 0, 0, 0);
        desk.tick(1);
        due(desk, 8, 2, 12, 1, 15, 0, 0, 0, 0);
        desk.tick(2);
        due(desk, 8, 2, 12, 1, 17, 2, 0, 0, 0);
        desk.gauge(1, 9000, 9000);
        desk.tick(1);
        due(desk, 8, 3, 0, 1, -1, -1, 0, 1, 0);
        desk.pulse(44);
        due(desk, 8, 3, 44, 1, -1, -1, 0, 1, 0);
        Scenes.pulses(desk, 5656);
        due(desk, 8, 2, 1, 0, 0, -1, 0, 1, 0);
    }

    private static void doors() {
        RopewayDesk desk = new RopewayDesk();
        Scenes.toRope(desk, 0, 1);
        Scenes.pulses(desk, 5700);
        for (int tick = 0; tick < 165; tick++) {
            int zone = 1 + tick / 15;
            int age = tick % 15;
            boolean open = zone == 5 && age >= 5 || zone == 6 || zone == 7 || zone == 8 && age < 10;
            CHECKS.due("where(1, 5) in zone " + zone + " with AGE " + age, desk.where(1, 5), open ? 1 : 0);
            desk.tick(1);
        }
        CHECKS.due("where(1, 1)", desk.where(1, 1), 12);
        CHECKS.due("where(1, 5) in zone 12", desk.where(1, 5), 0);
    }

    private static void tripsAndFaults() {
        RopewayDesk desk = new RopewayDesk();
        Scenes.toClamping(desk, 0, 1);
        desk.gauge(0, 4000, 9000);
        desk.tick(1);
        due(desk, 1, 1, 0, -1, -1, -1, 0, 0, 1);
        desk.release(0);
        Scenes.toRope(desk, 0, 1);
        due(desk, 1, 3, 0, 0, -1, -1, 0, 1, 1);
        Scenes.pulses(desk, 5700);
        Scenes.ticks(desk, 180);
        CHECKS.due("where(1, 4)", desk.where(1, 4), 0);
        desk.gauge(1, 5000, 5000);
        desk.tick(1);
        due(desk, 1, 3, 0, 1, -1, -1, 0, 2, 1);
        Scenes.pulses(desk, 5700);
        Scenes.ticks(desk, 180 + 40);
        due(desk, 1, 1, 0, -1, -1, -1, 0, 2, 3);
    }

    private static void othersAndWrongInputs() {
        RopewayDesk desk = new RopewayDesk();
        Scenes.toZone5(desk, 0, 1);
        for (int what : new int[] {-1, 8, Integer.MIN_VALUE, Integer.MAX_VALUE}) {
            CHECKS.due("where(1, " + what + ")", desk.where(1, what), -1);
        }
        for (int cabin : new int[] {-1, 60, Integer.MIN_VALUE, Integer.MAX_VALUE}) {
            CHECKS.refused("where(" + cabin + ", 0)", () -> desk.where(cabin, 0));
            CHECKS.refused("where(" + cabin + ", 8)", () -> desk.where(cabin, 8));
        }
    }
}
