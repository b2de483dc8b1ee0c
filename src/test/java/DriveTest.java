/** Promise 6. */
public final class DriveTest {
    private static final Checks CHECKS = new Checks("DriveTest");

    public static void main(String[] args) {
        RopewayDesk desk = new RopewayDesk();
        for (int step = 0; step <= 5; step++) {
            CHECKS.yes("drive(" + step + ")", desk.drive(step));
            CHECKS.due("state(1)", desk.state(1), step);
        }
        CHECKS.due("state(0) before a tick", desk.state(0), 0);
        for (int step : new int[] {-1, 6, Integer.MIN_VALUE, Integer.MAX_VALUE}) {
            CHECKS.refused("drive(" + step + ")", () -> desk.drive(step));
        }
        CHECKS.due("state(1) after wrong inputs", desk.state(1), 5);

        Scenes.report(desk, 251);
        CHECKS.yes("drive(4) before the lock stands", desk.drive(4));
        desk.tick(1);
        CHECKS.no("drive(1) while a lock stands", desk.drive(1));
        CHECKS.no("drive(0) while a lock stands", desk.drive(0));
        CHECKS.due("state(1) while a lock stands", desk.state(1), 4);
        CHECKS.refused("drive(6) while a lock stands", () -> desk.drive(6));
        Scenes.report(desk, 0, 0);
        CHECKS.no("drive(1) with the cause gone", desk.drive(1));
        desk.release(2);
        CHECKS.yes("drive(1) after the release", desk.drive(1));
        CHECKS.due("state(1)", desk.state(1), 1);

        everyLockHoldsTheDrive();
        CHECKS.end();
    }

    private static void everyLockHoldsTheDrive() {
        RopewayDesk bumped = Scenes.heldUp(1, 2);
        CHECKS.yes("drive(2) before BUMP", bumped.drive(2));
        bumped.pulse(1);
        CHECKS.no("drive(3) with BUMP", bumped.drive(3));
        RopewayDesk failed = new RopewayDesk();
        Scenes.toClamping(failed, 0, 1);
        Scenes.ticks(failed, 40);
        CHECKS.no("drive(3) with GRIP", failed.drive(3));
    }
}
