/** Promise 14. */
public final class GapTest {
    private static final Checks CHECKS = new Checks("GapTest");

    public static void main(String[] args) {
        RopewayDesk desk = new RopewayDesk();
        CHECKS.due("gap of one that is away", desk.gap(5), -1);
        desk.bring(5);
        CHECKS.due("gap of one in the siding", desk.gap(5), -1);
        desk.putOn(0, 5);
        CHECKS.due("gap of one in a zone", desk.gap(5), -1);
        Scenes.ticks(desk, 120);
        desk.gauge(0, 9000, 9000);
        desk.tick(1);
        CHECKS.due("gap when alone", desk.gap(5), 12000);
        desk.pulse(300);
        CHECKS.due("gap when alone", desk.gap(5), 12000);
        Scenes.toZone5(desk, 1, 6);
        CHECKS.due("gap with the other in a zone", desk.gap(5), 12000);

        Scenes.ticks(desk, 120);
        desk.gauge(1, 9000, 9000);
        desk.tick(1);
        CHECKS.due("gap(5) from 300 to 6000", desk.gap(5), 5700);
        CHECKS.due("gap(6) from 6000 to 300", desk.gap(6), 6300);
        Scenes.toRope(desk, 0, 4);
        CHECKS.due("gap(4) from 0 to 300", desk.gap(4), 300);
        CHECKS.due("gap(5) from 300 to 6000", desk.gap(5), 5700);
        CHECKS.due("gap(6) from 6000 to 0", desk.gap(6), 6000);
        Scenes.pulses(desk, 5400);
        CHECKS.due("where(5, 0)", desk.where(5, 0), 2);
        CHECKS.due("gap of one that let go", desk.gap(5), -1);
        CHECKS.due("gap(4) from 5400 to 11400", desk.gap(4), 6000);
        CHECKS.due("gap(6) from 11400 to 5400", desk.gap(6), 6000);

        for (int cabin : new int[] {-1, 60, Integer.MIN_VALUE, Integer.MAX_VALUE}) {
            CHECKS.refused("gap(" + cabin + ")", () -> desk.gap(cabin));
        }
        CHECKS.due("gap(59)", desk.gap(59), -1);
        CHECKS.end();
    }
}
