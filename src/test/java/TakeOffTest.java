/** Promise 9. */
public final class TakeOffTest {
    private static final Checks CHECKS = new Checks("TakeOffTest");
    private static final Refusals REFUSALS = new Refusals(CHECKS);

    public static void main(String[] args) {
        wrongInputs();
        for (int station = 0; station < 2; station++) {
            for (int zone = 5; zone <= 8; zone++) {
                comesToTheEnd(station, zone);
            }
            notInThoseZones(station);
            notThere(station);
            noRoom(station);
        }
        waitingOnesToo();
        CHECKS.end();
    }

    private static void wrongInputs() {
        CHECKS.sentence("IllegalArgumentException: no such station or cabin.");
        REFUSALS.beyond("takeOff, station", 0, 1, (desk, station) -> desk.takeOff(station, 59));
        REFUSALS.beyond("takeOff, cabin", 0, 59, (desk, cabin) -> desk.takeOff(0, cabin));
        REFUSALS.byException("takeOff(2, ..) of one that is away", RopewayDesk::new, desk -> desk.takeOff(2, 0));
        REFUSALS.byException("takeOff(1, 60) without room", Scenes::fullSiding, desk -> desk.takeOff(1, 60));
    }

    private static RopewayDesk inZone(int station, int zone) {
        RopewayDesk desk = Scenes.inZone1(station, 1);
        Scenes.ticks(desk, 15 * (zone - 1) + 3);
        Scenes.bringRow(desk, 20, 2);
        return desk;
    }

    private static void comesToTheEnd(int station, int zone) {
        CHECKS.sentence("A cabin in a zone 5 to 8 of a station comes to the end of the siding: true");
        RopewayDesk desk = inZone(station, zone);
        CHECKS.where("before", desk, 1, 2, zone, station, 3);
        CHECKS.yes("takeOff of zone " + zone, desk.takeOff(station, 1));
        CHECKS.where("after", desk, 1, 1, 2, -1, -1, -1, 0, 1, 0);
        CHECKS.due("sided(2)", desk.sided(2), 1);
        CHECKS.due("state(6)", desk.state(6), 0);
        CHECKS.yes("putOn behind it", desk.putOn(station, 20));
        Scenes.ticks(desk, 60);
        CHECKS.where("of the next one, with the zone empty", desk, 20, 2, 9, station, 0);
        CHECKS.no("takeOff once more", desk.takeOff(station, 1));
    }

    private static void notInThoseZones(int station) {
        CHECKS.sentence("false when it is not there, or there is no room.");
        for (int zone : new int[] {1, 2, 3, 4, 9, 10, 11, 12}) {
            CHECKS.where("before", inZone(station, zone), 1, 2, zone, station, 3);
            REFUSALS.byFalse("takeOff of zone " + zone, () -> inZone(station, zone), desk -> desk.takeOff(station, 1));
        }
        REFUSALS.byFalse("takeOff of one that is clamping", () -> Scenes.clamping(station, 5), desk -> desk.takeOff(station, 5));
    }

    private static void notThere(int station) {
        CHECKS.sentence("false when it is not there, or there is no room.");
        REFUSALS.byFalse("takeOff of one that is away", RopewayDesk::new, desk -> desk.takeOff(station, 1));
        REFUSALS.byFalse("takeOff of one in the siding", Scenes::fullSiding, desk -> desk.takeOff(station, 6));
        REFUSALS.byFalse("takeOff of one in the siding", Scenes::busy, desk -> desk.takeOff(station, 12));
        for (int zone = 5; zone <= 8; zone++) {
            int z = zone;
            REFUSALS.byFalse("takeOff of the other station", () -> inZone(1 - station, z), desk -> desk.takeOff(station, 1));
        }
        for (int done : new int[] {0, 5, 8, 5699}) {
            REFUSALS.byFalse("takeOff of one on the rope", () -> Scenes.onRope(station, 1, done), desk -> desk.takeOff(station, 1));
        }
    }

    private static RopewayDesk withSided(int station, int n) {
        RopewayDesk desk = new RopewayDesk();
        Scenes.toZone5(desk, station, 50);
        Scenes.bringRow(desk, 0, n);
        return desk;
    }

    private static void noRoom(int station) {
        CHECKS.sentence("false when it is not there, or there is no room.");
        REFUSALS.byFalse("takeOff with twenty in the siding", () -> withSided(station, 20), desk -> desk.takeOff(station, 50));
        for (int n : new int[] {0, 19}) {
            RopewayDesk desk = withSided(station, n);
            CHECKS.yes("takeOff with " + n + " in the siding", desk.takeOff(station, 50));
            CHECKS.due("sided(" + n + ")", desk.sided(n), 50);
            CHECKS.due("locks()", desk.locks(), 0);
        }
    }

    private static void waitingOnesToo() {
        CHECKS.sentence("A cabin in a zone 5 to 8 of a station comes to the end of the siding: true");
        RopewayDesk desk = Scenes.jam();
        desk.tick(100);
        for (int cabin = 3; cabin <= 8; cabin++) {
            boolean there = cabin >= 4 && cabin <= 7;
            CHECKS.due("takeOff(0, " + cabin + ") in a jam", desk.takeOff(0, cabin) ? 1 : 0, there ? 1 : 0);
        }
        CHECKS.due("state(4)", desk.state(4), 4);
        CHECKS.due("state(6)", desk.state(6), 8);
    }
}
