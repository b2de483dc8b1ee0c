/** Promise 12. */
public final class LocksTest {
    public static void main(String[] args) {
        Checks checks = new Checks("LocksTest");
        RopewayDesk desk = Scenes.heldUp(1, 2);
        checks.due("locks() with none", desk.locks(), 0);
        Scenes.toClamping(desk, 0, 50);
        Scenes.bringRow(desk, 10, 20);
        desk.tick(1);
        desk.pulse(0);
        checks.due("where(50, 4)", desk.where(50, 4), 1);
        desk.gauge(0, 0, 0);
        desk.wind(900);
        desk.tick(1);
        checks.due("locks() with GRIP, FULL, WIND", desk.locks(), 7);
        checks.yes("release(0)", desk.release(0));
        checks.due("locks() with FULL, WIND", desk.locks(), 6);

        RopewayDesk both = Scenes.heldUp(1, 2);
        both.pulse(1);
        both.wind(900);
        both.tick(1);
        checks.due("locks() with WIND, BUMP", both.locks(), 12);
        checks.due("locks() again", both.locks(), 12);
        checks.end();
    }
}
