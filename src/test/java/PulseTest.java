/** Promise 2, and the term PULSE. */
public final class PulseTest {
    private static final Checks CHECKS = new Checks("PulseTest");
    private static final Refusals REFUSALS = new Refusals(CHECKS);

    public static void main(String[] args) {
        wrongInputs();
        emptyRopeMoves();
        for (int station = 0; station < 2; station++) {
            for (int cabin : new int[] {0, 9, 59}) {
                cabinsDoOneMore(station, cabin);
                cabinComesToZone1(station, cabin);
            }
            for (int[] pair : new int[][] {{1, 2}, {59, 0}, {0, 59}}) {
                zone1IsTaken(station, pair[0], pair[1]);
                ropeStandsThisTimeAndAllOthers(station, pair[0], pair[1]);
            }
            bumpComesWithAMoveOnly(station);
            firstOfAllTheyLetGo(station);
        }
        bothStationsInOnePulse();
        bothStationsLetGoFirstOfAll();
        oneHeldUpStopsTheOtherSideToo();
        CHECKS.end();
    }

    private static void wrongInputs() {
        CHECKS.sentence("IllegalArgumentException: n is not 0 .. 600.");
        REFUSALS.beyond("pulse", 0, 600, RopewayDesk::pulse);
        for (int n : Refusals.outside(0, 600)) {
            REFUSALS.byException("pulse of " + n + " while held up", () -> Scenes.heldUp(0, 1, 2), desk -> desk.pulse(n));
            REFUSALS.byException("pulse of " + n + " before it lets go", PulseTest::mayLetGo, desk -> desk.pulse(n));
        }
    }

    /** Cabin 2 has done 5,700, and zone 1 ahead is empty again. */
    private static RopewayDesk mayLetGo() {
        RopewayDesk desk = Scenes.heldUp(0, 1, 2);
        desk.tick(15);
        return desk;
    }

    private static void emptyRopeMoves() {
        CHECKS.sentence("PULSE: how far the rope moved.");
        RopewayDesk desk = new RopewayDesk();
        CHECKS.due("pulse(0)", desk.pulse(0), 0);
        CHECKS.due("pulse(1)", desk.pulse(1), 1);
        CHECKS.due("pulse(600)", desk.pulse(600), 600);
        CHECKS.due("state(9)", desk.state(9), 601);
    }

    private static void cabinsDoOneMore(int station, int cabin) {
        CHECKS.sentence("otherwise all cabins on the rope have done one more");
        RopewayDesk desk = Scenes.onRope(station, cabin, 0);
        CHECKS.due("pulse(0)", desk.pulse(0), 0);
        CHECKS.where("with 0 done", desk, cabin, 3, 0, station);
        CHECKS.due("pulse(1)", desk.pulse(1), 1);
        CHECKS.where("with 1 done", desk, cabin, 3, 1, station);
        Scenes.toRope(desk, 1 - station, 8);
        Scenes.toZone5(desk, station, 7);
        desk.bring(6);
        CHECKS.due("pulse(600)", desk.pulse(600), 600);
        CHECKS.where("of the first", desk, cabin, 3, 601, station);
        CHECKS.where("of the other side", desk, 8, 3, 600, 1 - station);
        CHECKS.where("in a zone", desk, 7, 2, 5, station, 0);
        CHECKS.where("in the siding", desk, 6, 1, 0, -1);
    }

    private static void cabinComesToZone1(int station, int cabin) {
        CHECKS.sentence("a cabin comes to zone 1 of the station that it did not leave, AGE 0, if that is empty.");
        RopewayDesk desk = Scenes.onRope(station, cabin, 5699);
        CHECKS.where("with 5,699 done", desk, cabin, 3, 5699, station, -1);
        CHECKS.due("pulse(1) to 5,700", desk.pulse(1), 1);
        CHECKS.where("with 5,700 done", desk, cabin, 2, 1, 1 - station, 0, -1, 0, 1, 0);
        CHECKS.due("pulse(600) when it has let go", desk.pulse(600), 600);
        CHECKS.where("after more pulses", desk, cabin, 2, 1, 1 - station, 0);
        CHECKS.due("locks()", desk.locks(), 0);

        RopewayDesk past = Scenes.onRope(station, cabin, 5699);
        CHECKS.due("pulse(600) past the end", past.pulse(600), 600);
        CHECKS.where("when the rope moved past the end", past, cabin, 2, 1, 1 - station, 0);
        CHECKS.due("state(9)", past.state(9), 6299);
    }

    private static void zone1IsTaken(int station, int ahead, int behind) {
        CHECKS.sentence("a cabin comes to zone 1 of the station that it did not leave, AGE 0, if that is empty.");
        RopewayDesk desk = Scenes.heldUp(station, ahead, behind);
        CHECKS.where("of the one ahead", desk, ahead, 2, 1, 1 - station, 0);
        CHECKS.where("with zone 1 taken", desk, behind, 3, 5700, station, -1);
        desk.tick(14);
        CHECKS.due("pulse(0) with zone 1 taken", desk.pulse(0), 0);
        CHECKS.where("with zone 1 taken yet", desk, behind, 3, 5700, station, -1);
        desk.tick(1);
        CHECKS.where("before a pulse", desk, behind, 3, 5700, station, -1);
        CHECKS.due("pulse(0) with zone 1 empty", desk.pulse(0), 0);
        CHECKS.where("with zone 1 empty", desk, behind, 2, 1, 1 - station, 0);
        CHECKS.where("of the one ahead", desk, ahead, 2, 2, 1 - station, 0);
    }

    private static void ropeStandsThisTimeAndAllOthers(int station, int ahead, int behind) {
        CHECKS.sentence("when a cabin on the rope has done 5,700, the rope does not move (this time and all others), and BUMP stands");
        RopewayDesk desk = Scenes.onRope(station, ahead, 200);
        Scenes.toRope(desk, station, behind);
        Scenes.pulses(desk, 5699);
        CHECKS.due("pulse(600) with 5,699 done", desk.pulse(600), 1);
        CHECKS.due("locks()", desk.locks(), 8);
        CHECKS.where("of the one ahead", desk, ahead, 2, 1);
        CHECKS.where("of the one behind", desk, behind, 3, 5700);
        CHECKS.due("pulse(600) with 5,700 done", desk.pulse(600), 0);
        CHECKS.due("state(9)", desk.state(9), 5900);
    }

    private static void bumpComesWithAMoveOnly(int station) {
        CHECKS.sentence("Then, n times: when a cabin on the rope has done 5,700, the rope does not move");
        RopewayDesk desk = Scenes.heldUp(station, 1, 2);
        CHECKS.due("locks() when it has just come", desk.locks(), 0);
        CHECKS.due("pulse(0)", desk.pulse(0), 0);
        CHECKS.due("locks() after pulse(0)", desk.locks(), 0);
        desk.tick(1);
        CHECKS.due("locks() after a tick", desk.locks(), 0);
        CHECKS.due("pulse(1)", desk.pulse(1), 0);
        CHECKS.due("locks() after pulse(1)", desk.locks(), 8);
    }

    private static void firstOfAllTheyLetGo(int station) {
        CHECKS.sentence("first of all those that have done 5,700 LET GO.");
        RopewayDesk free = Scenes.heldUp(station, 1, 2);
        free.tick(15);
        CHECKS.due("pulse(600) with zone 1 empty again", free.pulse(600), 600);
        CHECKS.due("locks() with zone 1 empty again", free.locks(), 0);
        CHECKS.where("when it has let go", free, 2, 2, 1, 1 - station, 0);

        RopewayDesk bumped = Scenes.heldUp(station, 1, 2);
        bumped.pulse(1);
        bumped.tick(15);
        CHECKS.due("pulse(7) with BUMP standing", bumped.pulse(7), 7);
        CHECKS.where("with BUMP standing", bumped, 2, 2, 1, 1 - station, 0);
        CHECKS.due("locks()", bumped.locks(), 8);
    }

    /** Cabins 1 and 2 left stations 0 and 1 at the same time. */
    private static RopewayDesk sideBySide() {
        RopewayDesk desk = new RopewayDesk();
        sideBySide(desk, 1, 2);
        return desk;
    }

    private static void sideBySide(RopewayDesk desk, int of0, int of1) {
        Scenes.toZone5(desk, 0, of0);
        Scenes.toClamping(desk, 1, of1);
        desk.gauge(0, 9000, 9000);
        Scenes.proveGrip(desk, 1);
    }

    private static void bothStationsInOnePulse() {
        CHECKS.sentence("those that have done 5,700 LET GO");
        RopewayDesk together = sideBySide();
        Scenes.pulses(together, 5400);
        CHECKS.due("pulse(600) with two at 5,400", together.pulse(600), 600);
        CHECKS.where("of station 0", together, 1, 2, 1, 1, 0);
        CHECKS.where("of station 1", together, 2, 2, 1, 0, 0);

        RopewayDesk apart = Scenes.onRope(0, 1, 100);
        Scenes.toRope(apart, 1, 2);
        Scenes.pulses(apart, 5400);
        CHECKS.due("pulse(600) with 5,500 and 5,400 done", apart.pulse(600), 600);
        CHECKS.where("of station 0", apart, 1, 2, 1, 1, 0);
        CHECKS.where("of station 1", apart, 2, 2, 1, 0, 0);
        CHECKS.due("locks()", apart.locks(), 0);
    }

    private static void bothStationsLetGoFirstOfAll() {
        CHECKS.sentence("first of all those that have done 5,700 LET GO.");
        RopewayDesk desk = sideBySide();
        desk.pulse(200);
        sideBySide(desk, 3, 4);
        Scenes.pulses(desk, 5700);
        CHECKS.where("of station 0", desk, 3, 3, 5700, 0);
        CHECKS.where("of station 1", desk, 4, 3, 5700, 1);
        desk.tick(15);
        CHECKS.due("pulse(1) with two at 5,700", desk.pulse(1), 1);
        CHECKS.where("of station 0", desk, 3, 2, 1, 1, 0);
        CHECKS.where("of station 1", desk, 4, 2, 1, 0, 0);
        CHECKS.due("locks()", desk.locks(), 0);
    }

    private static void oneHeldUpStopsTheOtherSideToo() {
        CHECKS.sentence("when a cabin on the rope has done 5,700, the rope does not move (this time and all others), and BUMP stands");
        RopewayDesk desk = Scenes.onRope(0, 1, 200);
        Scenes.toRope(desk, 0, 2);
        Scenes.pulses(desk, 1000);
        Scenes.toRope(desk, 1, 3);
        CHECKS.due("moved", Scenes.pulses(desk, 4700), 4700);
        CHECKS.due("locks()", desk.locks(), 0);
        CHECKS.due("pulse(5)", desk.pulse(5), 0);
        CHECKS.where("when held up by the other side", desk, 3, 3, 4700, 1);
        CHECKS.due("locks()", desk.locks(), 8);
    }
}
