/** Promise 8. */
public final class PutOnTest {
    private static final Checks CHECKS = new Checks("PutOnTest");
    private static final Refusals REFUSALS = new Refusals(CHECKS);

    public static void main(String[] args) {
        wrongInputs();
        comesToZone5();
        everyPlaceOfTheSiding();
        notInTheSiding();
        for (int station = 0; station < 2; station++) {
            zoneIsTaken(station);
            zone6IsTaken(station);
            asManyAsPlanned(station);
        }
        sidingDoesNotCount();
        locksDoNotHoldIt();
        CHECKS.end();
    }

    private static void wrongInputs() {
        CHECKS.sentence("IllegalArgumentException: no such station or cabin.");
        REFUSALS.beyond("putOn, station", 0, 1, (desk, station) -> desk.putOn(station, 12));
        REFUSALS.beyond("putOn, cabin", 0, 59, (desk, cabin) -> desk.putOn(1, cabin));
        REFUSALS.byException("putOn(2, ..) of one that is away", RopewayDesk::new, desk -> desk.putOn(2, 0));
        REFUSALS.byException("putOn(0, 60) with nobody there", RopewayDesk::new, desk -> desk.putOn(0, 60));
        REFUSALS.byException("putOn(0, 60) without a place", () -> planned(1), desk -> desk.putOn(0, 60));
    }

    private static void comesToZone5() {
        CHECKS.sentence("A cabin of the siding comes to zone 5 of a station, AGE 0: true");
        for (int station = 0; station < 2; station++) {
            for (int cabin : new int[] {0, 59}) {
                RopewayDesk desk = new RopewayDesk();
                desk.bring(cabin);
                CHECKS.yes("putOn of the only one", desk.putOn(station, cabin));
                CHECKS.where("put on", desk, cabin, 2, 5, station, 0, -1, 0, 0, 0);
                CHECKS.due("sided(0)", desk.sided(0), -1);
                CHECKS.due("state(4)", desk.state(4), 0);
                CHECKS.due("state(6)", desk.state(6), 1);
            }
        }
    }

    private static void everyPlaceOfTheSiding() {
        CHECKS.sentence("A cabin of the siding comes to zone 5 of a station, AGE 0: true");
        for (int place = 0; place < 20; place++) {
            RopewayDesk desk = Scenes.fullSiding();
            CHECKS.yes("putOn of place " + place, desk.putOn(0, place));
            for (int i = 0; i < 19; i++) {
                int due = i < place ? i : i + 1;
                CHECKS.due("sided(" + i + ")", desk.sided(i), due);
                CHECKS.due("where(" + due + ", 1)", desk.where(due, 1), i);
            }
            CHECKS.due("sided(19)", desk.sided(19), -1);
            CHECKS.due("state(4)", desk.state(4), 19);
        }
    }

    private static void notInTheSiding() {
        CHECKS.sentence("false when it is not in the siding");
        for (int station = 0; station < 2; station++) {
            int s = station;
            REFUSALS.byFalse("putOn of one that is away", RopewayDesk::new, desk -> desk.putOn(s, 5));
            REFUSALS.byFalse("putOn of one on the rope", () -> Scenes.onRope(0, 5, 7), desk -> desk.putOn(s, 5));
            REFUSALS.byFalse("putOn of one in a zone", () -> Scenes.clamping(0, 5), desk -> desk.putOn(s, 5));
        }
    }

    private static RopewayDesk inZone(int station, int zone) {
        RopewayDesk desk = Scenes.inZone1(station, 1);
        Scenes.bringRow(desk, 2, 2);
        Scenes.ticks(desk, 15 * (zone - 1));
        return desk;
    }

    private static void zoneIsTaken(int station) {
        CHECKS.sentence("one of the zones 1 to 5 there is taken");
        for (int zone = 1; zone <= 5; zone++) {
            int z = zone;
            REFUSALS.byFalse("putOn with zone " + z + " taken", () -> inZone(station, z), desk -> desk.putOn(station, 2));
            RopewayDesk desk = inZone(station, zone);
            CHECKS.where("in the way", desk, 1, 2, zone, station);
            CHECKS.yes("putOn in the other station", desk.putOn(1 - station, 2));
            desk.tick(14);
            CHECKS.no("putOn with zone " + zone + " taken yet", desk.putOn(station, 3));
        }
    }

    private static void zone6IsTaken(int station) {
        CHECKS.sentence("one of the zones 1 to 5 there is taken");
        for (int zone = 6; zone <= 12; zone++) {
            RopewayDesk desk = inZone(station, zone);
            CHECKS.where("out of the way", desk, 1, 2, zone, station);
            CHECKS.yes("putOn with zone " + zone + " taken", desk.putOn(station, 2));
            CHECKS.where("put on", desk, 2, 2, 5, station, 0);
        }
    }

    /** Cabin 1 is on the rope, 2 in a zone, 3 in the siding. */
    private static RopewayDesk planned(int n) {
        RopewayDesk desk = Scenes.onRope(0, 1, 10);
        Scenes.toZone5(desk, 0, 2);
        desk.tick(100);
        desk.bring(3);
        desk.plan(15 * n);
        return desk;
    }

    private static void asManyAsPlanned(int station) {
        CHECKS.sentence("or as many as PLANNED (or more) are in zones and on the rope.");
        REFUSALS.byFalse("putOn with more than PLANNED", () -> planned(1), desk -> desk.putOn(station, 3));
        REFUSALS.byFalse("putOn with as many as PLANNED", () -> planned(2), desk -> desk.putOn(station, 3));
        CHECKS.yes("putOn with one less than PLANNED", planned(3).putOn(station, 3));

        RopewayDesk onRope = Scenes.onRope(0, 1, 10);
        onRope.bring(3);
        onRope.plan(15);
        CHECKS.no("putOn with as many as PLANNED on the rope", onRope.putOn(station, 3));
        RopewayDesk inZones = new RopewayDesk();
        Scenes.toZone5(inZones, 1 - station, 1);
        inZones.bring(3);
        inZones.plan(15);
        CHECKS.no("putOn with as many as PLANNED in zones", inZones.putOn(station, 3));
        inZones.plan(16);
        CHECKS.yes("putOn with one less than PLANNED in zones", inZones.putOn(station, 3));
    }

    private static void sidingDoesNotCount() {
        CHECKS.sentence("or as many as PLANNED (or more) are in zones and on the rope.");
        RopewayDesk desk = Scenes.fullSiding();
        desk.plan(1);
        CHECKS.yes("putOn with twenty in the siding and PLANNED 1", desk.putOn(0, 7));
        CHECKS.no("putOn of a second one", desk.putOn(1, 8));
        CHECKS.yes("takeOff", desk.takeOff(0, 7));
        CHECKS.yes("putOn when it is off again", desk.putOn(1, 8));
    }

    private static void locksDoNotHoldIt() {
        CHECKS.sentence("A cabin of the siding comes to zone 5 of a station, AGE 0: true");
        for (int code = 0; code < 4; code++) {
            RopewayDesk desk = Scenes.locked(code);
            desk.bring(33);
            CHECKS.yes("putOn with lock " + code, desk.putOn(0, desk.sided(0)));
        }
    }
}
