/** Promise 11. */
public final class ReleaseTest {
    private static final Checks CHECKS = new Checks("ReleaseTest");

    public static void main(String[] args) {
        grip();
        full();
        wind();
        bump();
        wrongInputs();
        CHECKS.end();
    }

    private static void grip() {
        RopewayDesk desk = new RopewayDesk();
        CHECKS.no("release(0) when it does not stand", desk.release(0));
        Scenes.toClamping(desk, 0, 1);
        desk.gauge(0, 1, 1);
        desk.tick(1);
        CHECKS.due("locks()", desk.locks(), 1);
        for (int other = 1; other <= 3; other++) {
            CHECKS.no("release(" + other + ") when it does not stand", desk.release(other));
        }
        CHECKS.due("locks()", desk.locks(), 1);
        CHECKS.yes("release(0)", desk.release(0));
        CHECKS.due("locks()", desk.locks(), 0);
        CHECKS.no("release(0) once more", desk.release(0));
    }

    private static void full() {
        RopewayDesk desk = new RopewayDesk();
        Scenes.toClamping(desk, 0, 50);
        Scenes.bringRow(desk, 0, 20);
        desk.gauge(0, 1, 1);
        desk.tick(1);
        CHECKS.due("locks()", desk.locks(), 3);
        CHECKS.no("release(1) with twenty in the siding", desk.release(1));
        CHECKS.yes("release(0) with twenty in the siding", desk.release(0));
        CHECKS.due("locks()", desk.locks(), 2);
        CHECKS.yes("putOn", desk.putOn(1, 0));
        CHECKS.yes("release(1) with nineteen", desk.release(1));
        CHECKS.due("locks()", desk.locks(), 0);
    }

    private static void wind() {
        RopewayDesk desk = new RopewayDesk();
        desk.wind(251);
        CHECKS.no("release(2) before a tick", desk.release(2));
        desk.tick(1);
        CHECKS.due("locks()", desk.locks(), 4);
        CHECKS.no("release(2) with 251", desk.release(2));
        Scenes.report(desk, 250, 250);
        CHECKS.due("state(3)", desk.state(3), 250);
        CHECKS.yes("release(2) with 250", desk.release(2));
        desk.tick(1);
        CHECKS.due("locks()", desk.locks(), 0);
    }

    private static void bump() {
        RopewayDesk desk = Scenes.heldUp(1, 2);
        CHECKS.no("release(3) when it does not stand", desk.release(3));
        desk.pulse(1);
        CHECKS.due("locks()", desk.locks(), 8);
        CHECKS.no("release(3) with a cabin at 5,700", desk.release(3));
        desk.tick(15);
        CHECKS.no("release(3) before it lets go", desk.release(3));
        desk.pulse(0);
        CHECKS.yes("release(3) after it let go", desk.release(3));
        CHECKS.due("locks()", desk.locks(), 0);
    }

    private static void wrongInputs() {
        RopewayDesk desk = new RopewayDesk();
        Scenes.toClamping(desk, 0, 1);
        desk.gauge(0, 1, 1);
        desk.tick(1);
        for (int code : new int[] {-1, 4, 32, Integer.MIN_VALUE, Integer.MAX_VALUE}) {
            CHECKS.refused("release(" + code + ")", () -> desk.release(code));
        }
        CHECKS.due("locks() after wrong inputs", desk.locks(), 1);
    }
}
