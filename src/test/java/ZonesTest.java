/** Of the term TICK: the AGE, and the way through zones 1 to 11. */
public final class ZonesTest {
    private static final Checks CHECKS = new Checks("ZonesTest");

    public static void main(String[] args) {
        for (int station = 0; station < 2; station++) {
            zonesTakeFifteenTicks(station);
            nextZoneIsTaken(station);
            itGoesOnWithTheOneAhead(station);
        }
        everyZoneIsTaken();
        allGoOnInOneTick();
        station0IsWorkedFirst();
        CHECKS.end();
    }

    private static void zonesTakeFifteenTicks(int station) {
        CHECKS.sentence("In zones 1 to 11: with an AGE of 15 or more, when the next zone is empty, it comes there, AGE 0.");
        RopewayDesk desk = Scenes.inZone1(station, 1);
        for (int zone = 1; zone <= 11; zone++) {
            CHECKS.where("just come", desk, 1, 2, zone, station, 0, -1);
            desk.tick(1);
            CHECKS.where("after a tick", desk, 1, 2, zone, station, 1, -1);
            desk.tick(13);
            CHECKS.where("with AGE 14", desk, 1, 2, zone, station, 14, -1);
            desk.tick(1);
        }
        CHECKS.where("at the last zone", desk, 1, 2, 12, station, 0, -1);
    }

    private static void nextZoneIsTaken(int station) {
        CHECKS.sentence("In zones 1 to 11: with an AGE of 15 or more, when the next zone is empty, it comes there, AGE 0.");
        RopewayDesk desk = new RopewayDesk();
        desk.wind(300);
        Scenes.rowOf(desk, station, 1, 2);
        Scenes.ticks(desk, 104);
        CHECKS.where("with AGE 14", desk, 2, 2, 11, station, 14);
        desk.tick(1);
        CHECKS.where("with AGE 15 behind a taken zone", desk, 2, 2, 11, station, 15);
        Scenes.ticks(desk, 35);
        CHECKS.where("with AGE 50 behind a taken zone", desk, 2, 2, 11, station, 50);
        CHECKS.where("in zone 12 under a lock", desk, 1, 2, 12, station, 50, -1);
    }

    private static void itGoesOnWithTheOneAhead(int station) {
        CHECKS.sentence("zones 12, 11, .. 1: for a cabin there the AGE is one more.");
        RopewayDesk desk = new RopewayDesk();
        Scenes.rowOf(desk, station, 1, 2);
        Scenes.ticks(desk, 105);
        CHECKS.where("ahead", desk, 1, 2, 12, station, 15, 0);
        CHECKS.where("behind", desk, 2, 2, 11, station, 15);
        Scenes.proveGrip(desk, station);
        CHECKS.where("ahead", desk, 1, 3, 0, station);
        CHECKS.where("behind, in the tick in which the one ahead left", desk, 2, 2, 12, station, 0, -1);
        desk.pulse(200);
        desk.tick(14);
        CHECKS.where("with AGE 14 in zone 12", desk, 2, 2, 12, station, 14, -1);
        desk.tick(1);
        CHECKS.where("with AGE 15 in zone 12", desk, 2, 2, 12, station, 15, 0);
    }

    private static int cabinOfJam(int zone) {
        return zone >= 5 ? 12 - zone : 24 - zone;
    }

    private static void everyZoneIsTaken() {
        CHECKS.sentence("in a ZONE 1 .. 12 of a STATION 0, 1 (at most one in a zone)");
        RopewayDesk desk = Scenes.jam();
        CHECKS.due("state(6) of a jam", desk.state(6), 12);
        for (int i = 0; i < 2; i++) {
            for (int zone = 1; zone <= 12; zone++) {
                CHECKS.where("in a jam", desk, cabinOfJam(zone), 2, zone, 0);
            }
            CHECKS.where("in a jam", desk, Scenes.LEFT_OVER, 3, 5700, 1);
            desk.pulse(0);
            Scenes.ticks(desk, 100);
        }
        CHECKS.due("where(23, 3) after 200 ticks in zone 1", desk.where(23, 3), 200);
        CHECKS.due("state(6) of a jam", desk.state(6), 12);
        CHECKS.due("pulse(600) in a jam", desk.pulse(600), 0);
        CHECKS.due("locks() in a jam", desk.locks(), 12);
    }

    private static void allGoOnInOneTick() {
        CHECKS.sentence("zones 12, 11, .. 1: for a cabin there the AGE is one more.");
        RopewayDesk desk = Scenes.jam();
        Scenes.ticks(desk, 15);
        Scenes.mend(desk, Scenes.WIND);
        desk.release(Scenes.WIND);
        desk.tick(1);
        CHECKS.where("when its turn has come", desk, 0, 2, 12, 0, desk.where(0, 3), 0);
        Scenes.proveGrip(desk, 0);
        CHECKS.where("when it left", desk, 0, 3, 0, 0);
        for (int zone = 1; zone <= 11; zone++) {
            CHECKS.where("in the tick in which the first one left", desk, cabinOfJam(zone), 2, zone + 1, 0, 0, -1);
        }
        CHECKS.due("pulse(9)", desk.pulse(9), 9);
        CHECKS.where("when zone 1 is empty", desk, Scenes.LEFT_OVER, 2, 1, 0, 0);
    }

    private static void station0IsWorkedFirst() {
        CHECKS.sentence("In station 0, then 1, zones 12, 11, .. 1: for a cabin there the AGE is one more.");
        for (int failing = 0; failing < 2; failing++) {
            RopewayDesk desk = new RopewayDesk();
            Scenes.toZone5(desk, failing, 1);
            desk.tick(40);
            Scenes.toZone5(desk, 1 - failing, 2);
            Scenes.ticks(desk, 119);
            CHECKS.due("where(1, 4)", desk.where(1, 4), 39);
            CHECKS.due("where(2, 3)", desk.where(2, 3), 14);
            desk.tick(1);
            CHECKS.due("locks()", desk.locks(), 1);
            CHECKS.due("where(2, 4) with station " + failing + " failing", desk.where(2, 4), failing == 0 ? -1 : 0);
        }
    }
}
