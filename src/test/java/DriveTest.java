/** Promise 6. */
public final class DriveTest {
    private static final Checks CHECKS = new Checks("DriveTest");
    private static final Refusals REFUSALS = new Refusals(CHECKS);

    public static void main(String[] args) {
        wrongInputs();
        everyStep();
        whileALockStands();
        CHECKS.end();
    }

    private static void wrongInputs() {
        CHECKS.sentence("IllegalArgumentException: it is not 0 .. 5.");
        REFUSALS.beyond("drive", 0, 5, RopewayDesk::drive);
        for (int step : Refusals.outside(0, 5)) {
            REFUSALS.byException("drive of " + step + " under a lock", () -> Scenes.locked(Scenes.WIND), desk -> desk.drive(step));
        }
    }

    private static void everyStep() {
        CHECKS.sentence("DRIVE: true");
        RopewayDesk desk = new RopewayDesk();
        for (int step : new int[] {5, 4, 3, 2, 1, 0, 0, 5, 5}) {
            CHECKS.yes("drive(" + step + ")", desk.drive(step));
            CHECKS.due("state(1)", desk.state(1), step);
            CHECKS.due("state(0) before a tick", desk.state(0), 0);
        }
    }

    private static void whileALockStands() {
        CHECKS.sentence("false, nothing being done, while a lock stands.");
        for (int code = 0; code < 4; code++) {
            int c = code;
            for (int step : new int[] {0, 3, 5}) {
                REFUSALS.byFalse("drive(" + step + ") with lock " + c, () -> Scenes.locked(c), desk -> desk.drive(step));
            }
            RopewayDesk desk = Scenes.locked(code);
            Scenes.mend(desk, code);
            CHECKS.no("drive(5) with the cause gone", desk.drive(5));
            CHECKS.due("state(1)", desk.state(1), 3);
            CHECKS.yes("release(" + code + ")", desk.release(code));
            CHECKS.yes("drive(5) after the release", desk.drive(5));
            CHECKS.due("state(1)", desk.state(1), 5);
        }
        RopewayDesk windy = new RopewayDesk();
        windy.wind(1000);
        CHECKS.yes("drive(4) before the lock stands", windy.drive(4));
        windy.tick(1);
        CHECKS.no("drive(4) when the lock stands", windy.drive(4));
    }
}
