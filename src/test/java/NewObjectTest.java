/** Promise 1, and what the terms say of the first state. */
public final class NewObjectTest {
    private static final Checks CHECKS = new Checks("NewObjectTest");
    private static final Refusals REFUSALS = new Refusals(CHECKS);

    public static void main(String[] args) {
        allAreAway();
        firstState();
        nothingIsThere();
        objectsAreApart();
        CHECKS.end();
    }

    private static void allAreAway() {
        CHECKS.sentence("All cabins are away.");
        for (int cabin = 0; cabin < 60; cabin++) {
            RopewayDesk desk = new RopewayDesk();
            CHECKS.where("at first", desk, cabin, 0, -1, -1, -1, -1, 0, 0, 0);
            CHECKS.due("gap(" + cabin + ") at first", desk.gap(cabin), -1);
        }
    }

    private static void firstState() {
        CHECKS.sentence("PLANNED is 60 at first, DRIVE and SPEED 0.");
        CHECKS.state("at first", new RopewayDesk(), 0, 0, 60, 0, 0, 0, 0, 0, 0, 0);
        CHECKS.sentence("each stands or does not; none at first.");
        CHECKS.due("locks() at first", new RopewayDesk().locks(), 0);
    }

    private static void nothingIsThere() {
        CHECKS.sentence("All cabins are away.");
        for (int station = 0; station < 2; station++) {
            int s = station;
            REFUSALS.byFalse("gauge at first", RopewayDesk::new, desk -> desk.gauge(s, 9000, 9000));
            for (int cabin : new int[] {0, 59}) {
                REFUSALS.byFalse("putOn at first", RopewayDesk::new, desk -> desk.putOn(s, cabin));
                REFUSALS.byFalse("takeOff at first", RopewayDesk::new, desk -> desk.takeOff(s, cabin));
            }
        }
        for (int code = 0; code < 4; code++) {
            int c = code;
            REFUSALS.byFalse("release at first", RopewayDesk::new, desk -> desk.release(c));
        }
        for (int place = -1; place <= 20; place++) {
            CHECKS.due("sided(" + place + ") at first", new RopewayDesk().sided(place), -1);
        }
        RopewayDesk desk = new RopewayDesk();
        CHECKS.due("pulse(600) at first", desk.pulse(600), 600);
        CHECKS.due("tick(100) at first", desk.tick(100), 0);
        CHECKS.due("locks() with nothing there", desk.locks(), 0);
    }

    private static void objectsAreApart() {
        CHECKS.sentence("All cabins are away.");
        RopewayDesk desk = new RopewayDesk();
        Scenes.lockedFourTimes();
        Scenes.busy();
        CHECKS.state("beside other objects", desk, 0, 0, 60, 0, 0, 0, 0, 0, 0, 0);
        CHECKS.due("locks() beside other objects", desk.locks(), 0);
        CHECKS.where("beside other objects", desk, 10, 0, -1, -1, -1, -1, 0, 0, 0);
    }
}
