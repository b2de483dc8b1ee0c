/** Promise 11. */
public final class ReleaseTest {
    private static final Checks CHECKS = new Checks("ReleaseTest");
    private static final Refusals REFUSALS = new Refusals(CHECKS);

    public static void main(String[] args) {
        wrongInputs();
        doesNotStand();
        causeIsStillThere();
        grip();
        full();
        wind();
        for (int station = 0; station < 2; station++) {
            for (int[] pair : new int[][] {{1, 2}, {59, 0}, {0, 59}}) {
                bump(station, pair[0], pair[1]);
            }
            noneIsAtTheEnd(station);
        }
        othersStandOn();
        CHECKS.end();
    }

    private static void wrongInputs() {
        CHECKS.sentence("IllegalArgumentException: no such lock.");
        REFUSALS.beyond("release", 0, 3, RopewayDesk::release);
        for (int code : new int[] {-1, 4, 32, 33, 34, 35, -32, Integer.MIN_VALUE, Integer.MAX_VALUE}) {
            REFUSALS.byException("release of " + code + " with all standing", Scenes::lockedFourTimes, desk -> desk.release(code));
        }
    }

    private static void doesNotStand() {
        CHECKS.sentence("false when it does not stand, or its cause is still there");
        for (int code = 0; code < 4; code++) {
            int c = code;
            REFUSALS.byFalse("release(" + c + ") with none standing", Scenes::busy, desk -> desk.release(c));
            for (int standing = 0; standing < 4; standing++) {
                if (standing != code) {
                    int s = standing;
                    REFUSALS.byFalse("release(" + c + ") with " + s + " standing", () -> Scenes.locked(s), desk -> desk.release(c));
                }
            }
        }
        REFUSALS.byFalse("release(1) with its cause alone", Scenes::fullSiding, desk -> desk.release(1));
        REFUSALS.byFalse("release(3) with its cause alone", () -> Scenes.heldUp(0, 1, 2), desk -> desk.release(3));
        REFUSALS.byFalse("release(2) with its cause alone", Scenes::windBeforeATick, desk -> desk.release(2));
    }

    private static void causeIsStillThere() {
        CHECKS.sentence("false when it does not stand, or its cause is still there");
        for (int code = 1; code < 4; code++) {
            int c = code;
            REFUSALS.byFalse("release(" + c + ") with its cause", () -> Scenes.locked(c), desk -> desk.release(c));
            REFUSALS.byFalse("release(" + c + ") with all standing", Scenes::lockedFourTimes, desk -> desk.release(c));
        }
    }

    private static void grip() {
        CHECKS.sentence("A lock does not stand any more: true");
        RopewayDesk desk = Scenes.locked(Scenes.GRIP);
        CHECKS.yes("release(0)", desk.release(0));
        CHECKS.due("locks()", desk.locks(), 0);
        CHECKS.no("release(0) once more", desk.release(0));
        CHECKS.where("of the one that failed", desk, 40, 1, 0, -1, -1, -1, 0, 0, 1);
    }

    private static void full() {
        CHECKS.sentence("FULL: twenty are in the siding");
        RopewayDesk desk = Scenes.locked(Scenes.FULL);
        CHECKS.due("state(4)", desk.state(4), 20);
        CHECKS.no("release(1) with twenty", desk.release(1));
        CHECKS.yes("putOn", desk.putOn(1, 19));
        CHECKS.due("state(4)", desk.state(4), 19);
        CHECKS.due("locks() before the release", desk.locks(), 2);
        CHECKS.yes("release(1) with nineteen", desk.release(1));
        CHECKS.due("locks()", desk.locks(), 0);

        RopewayDesk again = Scenes.locked(Scenes.FULL);
        again.putOn(1, 19);
        again.bring(33);
        CHECKS.no("release(1) with twenty again", again.release(1));
        CHECKS.due("locks()", again.locks(), 2);
    }

    private static void wind() {
        CHECKS.sentence("WIND: the WIND is above 250");
        RopewayDesk desk = Scenes.locked(Scenes.WIND);
        CHECKS.due("state(3)", desk.state(3), 251);
        CHECKS.no("release(2) with 251", desk.release(2));
        desk.wind(250);
        CHECKS.no("release(2) with 251 and 250", desk.release(2));
        desk.wind(250);
        CHECKS.due("state(3)", desk.state(3), 250);
        CHECKS.yes("release(2) with 250", desk.release(2));
        desk.tick(1);
        CHECKS.due("locks()", desk.locks(), 0);
    }

    private static void bump(int station, int ahead, int behind) {
        CHECKS.sentence("BUMP: a cabin on the rope has done 5,700.");
        RopewayDesk desk = Scenes.heldUp(station, ahead, behind);
        desk.pulse(1);
        CHECKS.no("release(3) with a cabin at 5,700", desk.release(3));
        desk.tick(15);
        CHECKS.no("release(3) before it lets go", desk.release(3));
        desk.pulse(0);
        CHECKS.due("locks() before the release", desk.locks(), 8);
        CHECKS.yes("release(3) after it let go", desk.release(3));
        CHECKS.due("locks()", desk.locks(), 0);
    }

    private static void noneIsAtTheEnd(int station) {
        CHECKS.sentence("BUMP: a cabin on the rope has done 5,700.");
        RopewayDesk near = Scenes.onRope(station, 1, 200);
        Scenes.toRope(near, station, 2);
        near.pulse(200);
        Scenes.toRope(near, station, 3);
        Scenes.pulses(near, 5500);
        near.pulse(1);
        CHECKS.where("held up", near, 2, 3, 5700);
        near.tick(15);
        CHECKS.due("pulse(199)", near.pulse(199), 199);
        CHECKS.where("near the end", near, 3, 3, 5699);
        CHECKS.yes("release(3) with a cabin at 5,699", near.release(3));
    }

    private static void othersStandOn() {
        CHECKS.sentence("A lock does not stand any more: true");
        for (int code = 0; code < 4; code++) {
            RopewayDesk desk = Scenes.lockedFourTimes();
            CHECKS.due("locks()", desk.locks(), 15);
            Scenes.mend(desk, code);
            CHECKS.due("locks() with the cause gone", desk.locks(), 15);
            CHECKS.yes("release(" + code + ")", desk.release(code));
            CHECKS.due("locks() after release(" + code + ")", desk.locks(), 15 - (1 << code));
            CHECKS.no("release(" + code + ") once more", desk.release(code));
        }
    }
}
