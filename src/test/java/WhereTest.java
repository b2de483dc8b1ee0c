/** Promise 13. */
public final class WhereTest {
    private static final Checks CHECKS = new Checks("WhereTest");
    private static final Refusals REFUSALS = new Refusals(CHECKS);

    public static void main(String[] args) {
        wrongInputs();
        others();
        for (int cabin : new int[] {0, 8, 59}) {
            everyPlace(cabin);
        }
        leastAndGreatestPlace();
        for (int station = 0; station < 2; station++) {
            stationAgeAndClamping(station);
            tripsAndFaultStay(station);
            doors(station);
        }
        doorsOfWaitingOnes();
        CHECKS.end();
    }

    private static void wrongInputs() {
        CHECKS.sentence("IllegalArgumentException: no such cabin.");
        for (int what : new int[] {-1, 0, 7, 8}) {
            REFUSALS.beyond("where(.., " + what + ")", 0, 59, (desk, cabin) -> desk.where(cabin, what));
        }
    }

    private static void others() {
        CHECKS.sentence("-1 for others.");
        for (int what : Refusals.outside(0, 7)) {
            for (int cabin : new int[] {0, 1, 10, 12, 40, 59}) {
                REFUSALS.byMinusOne("where(" + cabin + ", " + what + ")", Scenes::busy, desk -> desk.where(cabin, what));
            }
        }
    }

    private static void everyPlace(int cabin) {
        CHECKS.sentence("Of a cabin: 0 where it is (0 away, 1 siding, 2 zone, 3 rope), 1 its place in the siding (0 the first one), its zone, or what it has done (away: -1)");
        RopewayDesk desk = new RopewayDesk();
        CHECKS.where("away", desk, cabin, 0, -1, -1, -1, -1, 0, 0, 0);
        desk.bring(30);
        desk.bring(cabin);
        CHECKS.where("first of the siding", desk, 30, 1, 0, -1, -1, -1, 0, 0, 0);
        CHECKS.where("second of the siding", desk, cabin, 1, 1, -1, -1, -1, 0, 0, 0);
        desk.putOn(1, cabin);
        CHECKS.where("put on", desk, cabin, 2, 5, 1, 0, -1, 0, 0, 0);
        Scenes.ticks(desk, 119);
        CHECKS.where("before its turn", desk, cabin, 2, 12, 1, 14, -1, 0, 0, 0);
        desk.tick(1);
        CHECKS.where("clamping for 0 ticks", desk, cabin, 2, 12, 1, 15, 0, 0, 0, 0);
        desk.tick(2);
        CHECKS.where("clamping for 2 ticks", desk, cabin, 2, 12, 1, 17, 2, 0, 0, 0);
        Scenes.proveGrip(desk, 1);
        CHECKS.where("with 0 done", desk, cabin, 3, 0, 1, -1, -1, 0, 1, 0);
        desk.pulse(44);
        CHECKS.where("with 44 done", desk, cabin, 3, 44, 1, -1, -1, 0, 1, 0);
        Scenes.pulses(desk, 5655);
        CHECKS.where("with 5,699 done", desk, cabin, 3, 5699, 1, -1, -1, 0, 1, 0);
        desk.pulse(1);
        CHECKS.where("just come", desk, cabin, 2, 1, 0, 0, -1, 0, 1, 0);
    }

    private static void leastAndGreatestPlace() {
        CHECKS.sentence("1 its place in the siding (0 the first one), its zone, or what it has done (away: -1)");
        RopewayDesk full = Scenes.fullSiding();
        CHECKS.where("first of twenty", full, 0, 1, 0, -1);
        CHECKS.where("last of twenty", full, 19, 1, 19, -1);
        CHECKS.where("away beside twenty", full, 20, 0, -1, -1);
        RopewayDesk held = Scenes.heldUp(1, 1, 2);
        CHECKS.where("with 5,700 done", held, 2, 3, 5700, 1, -1, -1, 0, 1, 0);
    }

    private static void stationAgeAndClamping(int station) {
        CHECKS.sentence("2 the station (on the rope: that it left; else -1), 3 its AGE (-1: in no zone), 4 for how many ticks it is clamping (-1: it is not)");
        RopewayDesk desk = new RopewayDesk();
        CHECKS.where("away", desk, 9, 0, -1, -1, -1, -1);
        desk.bring(9);
        CHECKS.where("in the siding", desk, 9, 1, 0, -1, -1, -1);
        Scenes.toClamping(desk, station, 9);
        desk.tick(1);
        CHECKS.where("clamping", desk, 9, 2, 12, station, 16, 1);
        Scenes.failGrip(desk, station);
        CHECKS.where("failed", desk, 9, 1, 0, -1, -1, -1);
        desk.release(Scenes.GRIP);
        Scenes.toRope(desk, station, 9);
        CHECKS.where("on the rope", desk, 9, 3, 0, station, -1, -1);
        Scenes.pulses(desk, 5700);
        CHECKS.where("come to the other station", desk, 9, 2, 1, 1 - station, 0, -1);
        Scenes.ticks(desk, 179);
        CHECKS.where("waiting for its turn there", desk, 9, 2, 12, 1 - station, 14, -1);
    }

    private static void tripsAndFaultStay(int station) {
        CHECKS.sentence("6 its TRIPS, 7 its latest FAULT (0: none).");
        RopewayDesk desk = Scenes.clamping(station, 9);
        desk.tick(40);
        CHECKS.where("in the siding", desk, 9, 1, 0, -1, -1, -1, 0, 0, 3);
        desk.release(Scenes.GRIP);
        Scenes.toRope(desk, station, 9);
        CHECKS.where("on the rope", desk, 9, 3, 0, station, -1, -1, 0, 1, 3);
        Scenes.pulses(desk, 5700);
        CHECKS.where("in zone 1", desk, 9, 2, 1, 1 - station, 0, -1, 0, 1, 3);
        desk.tick(60);
        CHECKS.yes("takeOff", desk.takeOff(1 - station, 9));
        CHECKS.where("taken off", desk, 9, 1, 0, -1, -1, -1, 0, 1, 3);
        CHECKS.yes("putOn", desk.putOn(station, 9));
        CHECKS.where("put on again", desk, 9, 2, 5, station, 0, -1, 0, 1, 3);
        CHECKS.where("never moved", desk, 10, 0, -1, -1, -1, -1, 0, 0, 0);
    }

    private static void doors(int station) {
        CHECKS.sentence("5 whether its doors are open (1, 0): in zone 5 with an AGE of 5 or more, in 6 and 7, in 8 with less than 10");
        RopewayDesk desk = Scenes.inZone1(station, 1);
        for (int tick = 0; tick < 180; tick++) {
            int zone = 1 + tick / 15;
            int age = tick % 15;
            boolean open = zone == 5 && age >= 5 || zone == 6 || zone == 7 || zone == 8 && age < 10;
            CHECKS.due("where(1, 5) in zone " + zone + " with AGE " + age, desk.where(1, 5), open ? 1 : 0);
            desk.tick(1);
        }
        CHECKS.where("clamping", desk, 1, 2, 12, station, 15, 0, 0);
    }

    private static void doorsOfWaitingOnes() {
        CHECKS.sentence("5 whether its doors are open (1, 0): in zone 5 with an AGE of 5 or more, in 6 and 7, in 8 with less than 10");
        RopewayDesk desk = Scenes.jam();
        desk.tick(100);
        for (int zone = 5; zone <= 12; zone++) {
            CHECKS.due("where(.., 1)", desk.where(12 - zone, 1), zone);
            CHECKS.due("where(.., 5) in zone " + zone + " after long", desk.where(12 - zone, 5), zone <= 7 ? 1 : 0);
        }
        for (int zone = 1; zone <= 4; zone++) {
            CHECKS.due("where(.., 1)", desk.where(24 - zone, 1), zone);
            CHECKS.due("where(.., 5) in zone " + zone + " after long", desk.where(24 - zone, 5), 0);
        }
        CHECKS.due("where(24, 5) with 5,700 done", desk.where(24, 5), 0);
    }
}
