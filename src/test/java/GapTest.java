/** Promise 14, and the loop. */
public final class GapTest {
    private static final Checks CHECKS = new Checks("GapTest");
    private static final Refusals REFUSALS = new Refusals(CHECKS);

    public static void main(String[] args) {
        wrongInputs();
        notOnTheRope();
        for (int station = 0; station < 2; station++) {
            alone(station);
            oneBehindTheOther(station, 1, 2);
            oneBehindTheOther(station, 59, 0);
            fromTheEndToTheNextStation(station);
        }
        oppositeSides();
        nextOfSeveral();
        CHECKS.end();
    }

    private static void wrongInputs() {
        CHECKS.sentence("IllegalArgumentException: no such cabin.");
        REFUSALS.beyond("gap", 0, 59, RopewayDesk::gap);
    }

    private static void notOnTheRope() {
        CHECKS.sentence("-1 when it is not on the rope.");
        for (int cabin : new int[] {0, 3, 10, 11, 12, 14, 40, 58, 59}) {
            REFUSALS.byMinusOne("gap(" + cabin + ")", Scenes::busy, desk -> desk.gap(cabin));
        }
        RopewayDesk desk = Scenes.onRope(0, 5, 5699);
        CHECKS.due("gap(5) with 5,699 done", desk.gap(5), 12000);
        desk.pulse(1);
        CHECKS.due("gap(5) when it has let go", desk.gap(5), -1);
    }

    private static void alone(int station) {
        CHECKS.sentence("round the loop (12,000 when it is alone)");
        for (int done : new int[] {0, 1, 3000, 5699}) {
            RopewayDesk desk = Scenes.onRope(station, 5, done);
            Scenes.toZone5(desk, station, 6);
            Scenes.toZone5(desk, 1 - station, 7);
            desk.bring(8);
            CHECKS.due("gap(5) with " + done + " done", desk.gap(5), 12000);
        }
    }

    /** Of the two the one ahead looks round almost the whole loop, past the end of the numbers. */
    private static void oneBehindTheOther(int station, int ahead, int behind) {
        CHECKS.sentence("From a cabin on the rope to the next one ahead on the rope, round the loop");
        RopewayDesk near = Scenes.ninetyApart(station, ahead, behind);
        for (int done : new int[] {0, 1, 5608, 5609}) {
            Scenes.pulses(near, done - near.where(behind, 1));
            CHECKS.where("behind", near, behind, 3, done, station);
            CHECKS.due("gap of the one behind with " + done + " done", near.gap(behind), 90);
            CHECKS.due("gap of the one ahead with " + (done + 90) + " done", near.gap(ahead), 11910);
        }
        near.pulse(1);
        CHECKS.due("gap of the one behind, alone", near.gap(behind), 12000);
        CHECKS.due("gap of the one that let go", near.gap(ahead), -1);
    }

    private static void fromTheEndToTheNextStation(int station) {
        CHECKS.sentence("one that left station s and has done d is at 6000 s + d");
        RopewayDesk desk = Scenes.onRope(station, 1, 200);
        Scenes.toRope(desk, station, 2);
        Scenes.toClamping(desk, 1 - station, 3);
        Scenes.pulses(desk, 5700);
        Scenes.proveGrip(desk, 1 - station);
        CHECKS.where("held up", desk, 2, 3, 5700, station);
        CHECKS.where("just left", desk, 3, 3, 0, 1 - station);
        CHECKS.due("gap from 5,700 to the other station's 0", desk.gap(2), 300);
        CHECKS.due("gap from there round to 5,700", desk.gap(3), 11700);
    }

    private static void oppositeSides() {
        CHECKS.sentence("The loop has 12,000 decimetres: one that left station s and has done d is at 6000 s + d");
        RopewayDesk desk = Scenes.onRope(0, 5, 300);
        Scenes.toRope(desk, 1, 6);
        CHECKS.due("gap(5) from 300 to 6000", desk.gap(5), 5700);
        CHECKS.due("gap(6) from 6000 to 300", desk.gap(6), 6300);
        Scenes.pulses(desk, 5399);
        CHECKS.due("gap(5) from 5699 to 11399", desk.gap(5), 5700);
        CHECKS.due("gap(6) from 11399 to 5699", desk.gap(6), 6300);

        RopewayDesk even = Scenes.onRope(0, 5, 6000 - 5700);
        Scenes.toRope(even, 0, 4);
        Scenes.toRope(even, 1, 6);
        CHECKS.due("gap(6) from 6000 to 0", even.gap(6), 6000);
        Scenes.pulses(even, 5400);
        CHECKS.due("gap(4) from 5400 to 11400", even.gap(4), 6000);
        CHECKS.due("gap(6) from 11400 to 5400", even.gap(6), 6000);
    }

    private static void nextOfSeveral() {
        CHECKS.sentence("From a cabin on the rope to the next one ahead on the rope, round the loop");
        RopewayDesk desk = Scenes.onRope(1, 7, 250);
        Scenes.toRope(desk, 1, 3);
        desk.pulse(300);
        Scenes.toRope(desk, 0, 9);
        desk.pulse(400);
        Scenes.toRope(desk, 0, 1);
        CHECKS.due("gap(1) from 0 to 400", desk.gap(1), 400);
        CHECKS.due("gap(9) from 400 to 6700", desk.gap(9), 6300);
        CHECKS.due("gap(3) from 6700 to 6950", desk.gap(3), 250);
        CHECKS.due("gap(7) from 6950 to 0", desk.gap(7), 5050);
    }
}
