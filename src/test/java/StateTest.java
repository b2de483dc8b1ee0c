/** Promise 16. */
public final class StateTest {
    private static final Checks CHECKS = new Checks("StateTest");
    private static final Refusals REFUSALS = new Refusals(CHECKS);

    public static void main(String[] args) {
        others();
        everyNumber();
        nothingAndEverything();
        movedEver();
        lastCallsOfAnObject();
        CHECKS.end();
    }

    private static void others() {
        CHECKS.sentence("-1 for others.");
        for (int what : Refusals.outside(0, 9)) {
            REFUSALS.byMinusOne("state(" + what + ")", Scenes::busy, desk -> desk.state(what));
            REFUSALS.byMinusOne("state(" + what + ")", RopewayDesk::new, desk -> desk.state(what));
        }
    }

    private static void everyNumber() {
        CHECKS.sentence("0 SPEED, 1 DRIVE, 2 PLANNED, 3 WIND, 4 cabins in the siding, 5 on the rope, 6 in zones, 7 TRIPS of all, 8 ticks ever, 9 how far the rope moved ever");
        RopewayDesk desk = new RopewayDesk();
        desk.drive(4);
        desk.plan(450);
        Scenes.report(desk, 100, 120);
        Scenes.bringRow(desk, 0, 3);
        desk.putOn(1, 1);
        desk.tick(3);
        CHECKS.state("with one in a zone", desk, 3, 4, 30, 120, 2, 0, 1, 0, 3, 0);
        Scenes.ticks(desk, 117);
        Scenes.proveGrip(desk, 1);
        desk.pulse(500);
        CHECKS.state("with one on the rope", desk, 4, 4, 30, 120, 2, 1, 0, 1, 121, 500);
        Scenes.toRope(desk, 0, 0);
        Scenes.toZone5(desk, 0, 2);
        CHECKS.state("with two on the rope", desk, 4, 4, 30, 120, 0, 2, 1, 2, 242, 500);
        Scenes.ticks(desk, 100);
        Scenes.pulses(desk, 5200);
        CHECKS.state("with one in zones of each", desk, 4, 4, 30, 120, 0, 1, 2, 2, 342, 5700);
    }

    private static void nothingAndEverything() {
        CHECKS.sentence("4 cabins in the siding, 5 on the rope, 6 in zones");
        CHECKS.state("of a full siding", Scenes.fullSiding(), 0, 0, 60, 0, 20, 0, 0, 0, 0, 0);
        RopewayDesk desk = Scenes.jam();
        Scenes.bringRow(desk, 30, 21);
        CHECKS.state("of a jam", desk, 0, 0, 60, 251, 20, 1, 12, 5);
        CHECKS.state("of cabins 0 and 59", twoAtTheEdges(), 0, 0, 60, 0, 0, 2, 0, 2, 242, 0);
    }

    private static RopewayDesk twoAtTheEdges() {
        RopewayDesk desk = Scenes.onRope(0, 0, 0);
        Scenes.toRope(desk, 1, 59);
        return desk;
    }

    private static void movedEver() {
        CHECKS.sentence("8 ticks ever, 9 how far the rope moved ever");
        RopewayDesk desk = Scenes.heldUp(0, 1, 2);
        int ticks = desk.state(8);
        CHECKS.due("state(9)", desk.state(9), 5900);
        desk.pulse(600);
        CHECKS.due("state(9) when the rope does not move", desk.state(9), 5900);
        desk.tick(15);
        CHECKS.due("state(8) under a lock", desk.state(8), ticks + 15);
        desk.pulse(600);
        CHECKS.due("state(9) when it moves again", desk.state(9), 6500);
    }

    private static void lastCallsOfAnObject() {
        CHECKS.sentence("An object is used for at most 512 calls after it has been made");
        RopewayDesk desk = new RopewayDesk();
        for (int i = 0; i < 255; i++) {
            desk.pulse(600);
            desk.tick(100);
        }
        CHECKS.due("state(8) as the 511th call", desk.state(8), 25500);
        CHECKS.due("state(9) as the 512th call", desk.state(9), 153000);
    }
}
