/** Promise 8. */
public final class PutOnTest {
    private static final Checks CHECKS = new Checks("PutOnTest");

    public static void main(String[] args) {
        comesToZone5();
        onlyOneOfTheSiding();
        zones1To5MustBeEmpty();
        atMostPlanned();
        locksDoNotHoldIt();
        wrongInputs();
        CHECKS.end();
    }

    private static void comesToZone5() {
        RopewayDesk desk = new RopewayDesk();
        Scenes.bringRow(desk, 10, 4);
        CHECKS.yes("putOn(1, 11)", desk.putOn(1, 11));
        CHECKS.due("where(11, 0)", desk.where(11, 0), 2);
        CHECKS.due("where(11, 1)", desk.where(11, 1), 5);
        CHECKS.due("where(11, 2)", desk.where(11, 2), 1);
        CHECKS.due("where(11, 3)", desk.where(11, 3), 0);
        CHECKS.due("sided(0)", desk.sided(0), 10);
        CHECKS.due("sided(1)", desk.sided(1), 12);
        CHECKS.due("sided(2)", desk.sided(2), 13);
        CHECKS.due("sided(3)", desk.sided(3), -1);
        CHECKS.due("where(13, 1)", desk.where(13, 1), 2);
        CHECKS.yes("putOn(0, 13)", desk.putOn(0, 13));
        CHECKS.due("state(4)", desk.state(4), 2);
        CHECKS.due("state(6)", desk.state(6), 2);
    }

    private static void onlyOneOfTheSiding() {
        RopewayDesk desk = new RopewayDesk();
        CHECKS.no("putOn of one that is away", desk.putOn(0, 1));
        Scenes.toZone5(desk, 0, 1);
        CHECKS.no("putOn of one in a zone", desk.putOn(1, 1));
        CHECKS.due("where(1, 2)", desk.where(1, 2), 0);
        Scenes.ticks(desk, 120);
        desk.gauge(0, 9000, 9000);
        desk.tick(1);
        CHECKS.no("putOn of one on the rope", desk.putOn(1, 1));
        CHECKS.due("where(1, 0)", desk.where(1, 0), 3);
    }

    private static void zones1To5MustBeEmpty() {
        RopewayDesk desk = new RopewayDesk();
        Scenes.toZone5(desk, 0, 1);
        desk.bring(2);
        CHECKS.no("putOn with zone 5 taken", desk.putOn(0, 2));
        desk.tick(14);
        CHECKS.no("putOn with zone 5 taken yet", desk.putOn(0, 2));
        CHECKS.due("sided(0)", desk.sided(0), 2);
        desk.tick(1);
        CHECKS.yes("putOn with zone 6 taken", desk.putOn(0, 2));

        RopewayDesk late = new RopewayDesk();
        Scenes.toRope(late, 0, 1);
        Scenes.pulses(late, 5700);
        late.bring(2);
        for (int zone = 1; zone <= 5; zone++) {
            CHECKS.due("where(1, 1)", late.where(1, 1), zone);
            CHECKS.no("putOn with zone " + zone + " taken", late.putOn(1, 2));
            late.tick(15);
        }
        CHECKS.yes("putOn when it is past", late.putOn(1, 2));
    }

    private static void atMostPlanned() {
        RopewayDesk desk = new RopewayDesk();
        desk.plan(30);
        Scenes.toRope(desk, 0, 1);
        Scenes.toZone5(desk, 0, 2);
        CHECKS.due("state(5) + state(6)", desk.state(5) + desk.state(6), 2);
        desk.bring(3);
        CHECKS.no("putOn with as many as PLANNED", desk.putOn(1, 3));
        desk.plan(15);
        CHECKS.no("putOn with more than PLANNED", desk.putOn(1, 3));
        desk.plan(31);
        CHECKS.yes("putOn with one less than PLANNED", desk.putOn(1, 3));
    }

    private static void locksDoNotHoldIt() {
        RopewayDesk desk = new RopewayDesk();
        desk.wind(300);
        desk.tick(1);
        desk.bring(1);
        CHECKS.yes("putOn with WIND standing", desk.putOn(0, 1));
    }

    private static void wrongInputs() {
        RopewayDesk desk = new RopewayDesk();
        desk.bring(1);
        CHECKS.refused("putOn(-1, 1)", () -> desk.putOn(-1, 1));
        CHECKS.refused("putOn(2, 1)", () -> desk.putOn(2, 1));
        CHECKS.refused("putOn(0, -1)", () -> desk.putOn(0, -1));
        CHECKS.refused("putOn(0, 60)", () -> desk.putOn(0, 60));
        CHECKS.due("where(1, 0) after wrong inputs", desk.where(1, 0), 1);
    }
}
