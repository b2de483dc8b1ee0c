/** Promise 4. */
public final class GaugeTest {
    private static final Checks CHECKS = new Checks("GaugeTest");
    private static final Refusals REFUSALS = new Refusals(CHECKS);

    public static void main(String[] args) {
        wrongStation();
        wrongForce();
        leastAndGreatestForce();
        for (int station = 0; station < 2; station++) {
            aReport(station);
            laterReportTakesThePlace(station);
            noneIsClamping(station);
        }
        reportIsOfItsStation();
        reportEndsWithTheClamping();
        CHECKS.end();
    }

    private static void wrongStation() {
        CHECKS.sentence("IllegalArgumentException: no such station, or a force is not 0 .. 20,000.");
        REFUSALS.beyond("gauge, station", 0, 1, (desk, station) -> desk.gauge(station, 9000, 9000));
        REFUSALS.byException("gauge(2, ..) with nobody there", RopewayDesk::new, desk -> desk.gauge(2, 0, 0));
    }

    private static void wrongForce() {
        CHECKS.sentence("IllegalArgumentException: no such station, or a force is not 0 .. 20,000.");
        for (int station = 0; station < 2; station++) {
            int s = station;
            REFUSALS.beyond("gauge, left", 0, 20000, (desk, force) -> desk.gauge(s, force, 9000));
            REFUSALS.beyond("gauge, right", 0, 20000, (desk, force) -> desk.gauge(s, 9000, force));
            REFUSALS.byException("gauge(.., 20001, 0)", RopewayDesk::new, desk -> desk.gauge(s, 20001, 0));
            REFUSALS.byException("gauge(.., 0, -1)", RopewayDesk::new, desk -> desk.gauge(s, 0, -1));
        }
    }

    private static void leastAndGreatestForce() {
        CHECKS.sentence("IllegalArgumentException: no such station, or a force is not 0 .. 20,000.");
        RopewayDesk least = Scenes.clamping(0, 5);
        CHECKS.yes("gauge(0, 0, 0)", least.gauge(0, 0, 0));
        least.tick(1);
        CHECKS.where("with a report of 0 and 0", least, 5, 1, 0, -1, -1, -1, 0, 0, 1);
        RopewayDesk greatest = Scenes.clamping(1, 5);
        CHECKS.yes("gauge(1, 20000, 20000)", greatest.gauge(1, 20000, 20000));
        greatest.tick(1);
        CHECKS.where("with a report of 20,000 and 20,000", greatest, 5, 3, 0, 1, -1, -1, 0, 1, 0);
    }

    private static void aReport(int station) {
        CHECKS.sentence("A REPORT (in place of one that is there) for the cabin that is clamping in a station: true");
        RopewayDesk desk = Scenes.clamping(station, 5);
        desk.tick(1);
        CHECKS.yes("gauge", desk.gauge(station, 9000, 9000));
        CHECKS.where("before the tick", desk, 5, 2, 12, station, 16, 1);
        desk.tick(1);
        CHECKS.where("after the tick", desk, 5, 3, 0, station);
    }

    private static void laterReportTakesThePlace(int station) {
        CHECKS.sentence("A REPORT (in place of one that is there) for the cabin that is clamping in a station: true");
        int[][] forcesAndFault = {
            {1, 1, 9000, 9000, 0}, {9000, 9000, 1, 9000, 1}, {9000, 9000, 9000, 1, 1}, {1, 1, 9000, 5000, 2},
        };
        for (int[] row : forcesAndFault) {
            RopewayDesk desk = Scenes.clamping(station, 5);
            CHECKS.yes("first gauge", desk.gauge(station, row[0], row[1]));
            CHECKS.yes("second gauge", desk.gauge(station, row[2], row[3]));
            desk.tick(1);
            CHECKS.due("where(5, 0)", desk.where(5, 0), row[4] == 0 ? 3 : 1);
            CHECKS.due("where(5, 7)", desk.where(5, 7), row[4]);
        }
    }

    private static void noneIsClamping(int station) {
        CHECKS.sentence("false when none is.");
        REFUSALS.byFalse("gauge of an empty station", RopewayDesk::new, desk -> desk.gauge(station, 9000, 9000));
        REFUSALS.byFalse("gauge of the other station", () -> Scenes.clamping(1 - station, 5), desk -> desk.gauge(station, 9000, 9000));
        REFUSALS.byFalse("gauge with AGE 14 in zone 12", () -> inZones(station, 119), desk -> desk.gauge(station, 9000, 9000));
        REFUSALS.byFalse("gauge with zone 11 taken", () -> inZones(station, 100), desk -> desk.gauge(station, 9000, 9000));
        REFUSALS.byFalse("gauge of one that left", () -> Scenes.onRope(station, 5, 0), desk -> desk.gauge(station, 9000, 9000));
        for (int code = 0; code < 4; code++) {
            int c = code;
            REFUSALS.byFalse("gauge of one that waits", () -> Scenes.locked(c), desk -> desk.gauge(0, 9000, 9000));
        }
    }

    private static RopewayDesk inZones(int station, int ticks) {
        RopewayDesk desk = new RopewayDesk();
        Scenes.toZone5(desk, station, 5);
        Scenes.ticks(desk, ticks);
        return desk;
    }

    private static void reportIsOfItsStation() {
        CHECKS.sentence("A REPORT (in place of one that is there) for the cabin that is clamping in a station: true");
        for (int station = 0; station < 2; station++) {
            RopewayDesk desk = Scenes.busy();
            CHECKS.yes("gauge", desk.gauge(station, 4000, 4000));
            desk.tick(1);
            CHECKS.where("of station 0", desk, 10, station == 0 ? 1 : 3);
            CHECKS.where("of station 1", desk, 11, station == 1 ? 1 : 2);
        }
    }

    private static void reportEndsWithTheClamping() {
        CHECKS.sentence("it is clamping, for 0 ticks, without a report.");
        RopewayDesk desk = Scenes.clamping(0, 5);
        Scenes.failGrip(desk, 0);
        desk.release(Scenes.GRIP);
        Scenes.toClamping(desk, 0, 5);
        desk.tick(1);
        CHECKS.where("without a new report after a failed one", desk, 5, 2, 12, 0, 16, 1);
        Scenes.proveGrip(desk, 0);
        Scenes.pulses(desk, 5700);
        Scenes.ticks(desk, 181);
        CHECKS.where("without a new report after a proved one", desk, 5, 2, 12, 1, 16, 1);
    }
}
