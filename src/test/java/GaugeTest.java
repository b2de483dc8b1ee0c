/** Promise 4. */
public final class GaugeTest {
    private static final Checks CHECKS = new Checks("GaugeTest");

    public static void main(String[] args) {
        onlyAClampingCabinTakesAReport();
        laterReportTakesThePlace();
        reportsGoToTheirStation();
        reportEndsWithTheClamping();
        edgesAndWrongInputs();
        CHECKS.end();
    }

    private static void onlyAClampingCabinTakesAReport() {
        RopewayDesk desk = new RopewayDesk();
        CHECKS.no("gauge of an empty station", desk.gauge(0, 9000, 9000));
        Scenes.toZone5(desk, 0, 5);
        CHECKS.no("gauge with a cabin in zone 5", desk.gauge(0, 9000, 9000));
        Scenes.ticks(desk, 119);
        CHECKS.due("where(5, 1)", desk.where(5, 1), 12);
        CHECKS.no("gauge before it is clamping", desk.gauge(0, 9000, 9000));
        desk.tick(1);
        CHECKS.no("gauge of the other station", desk.gauge(1, 9000, 9000));
        CHECKS.due("where(5, 4)", desk.where(5, 4), 0);
        desk.tick(1);
        CHECKS.due("where(5, 4) without a report", desk.where(5, 4), 1);
        CHECKS.yes("gauge while clamping", desk.gauge(0, 9000, 9000));
        CHECKS.due("where(5, 0) before the tick", desk.where(5, 0), 2);
        desk.tick(1);
        CHECKS.due("where(5, 0) after the tick", desk.where(5, 0), 3);
        CHECKS.no("gauge of a cabin that left", desk.gauge(0, 9000, 9000));
    }

    private static void laterReportTakesThePlace() {
        RopewayDesk desk = new RopewayDesk();
        Scenes.toClamping(desk, 1, 5);
        CHECKS.yes("first gauge", desk.gauge(1, 1, 1));
        CHECKS.yes("second gauge", desk.gauge(1, 9000, 9000));
        desk.tick(1);
        CHECKS.due("where(5, 0)", desk.where(5, 0), 3);
        CHECKS.due("where(5, 7)", desk.where(5, 7), 0);
    }

    private static void reportsGoToTheirStation() {
        RopewayDesk desk = new RopewayDesk();
        Scenes.toZone5(desk, 0, 5);
        Scenes.toClamping(desk, 1, 6);
        CHECKS.yes("gauge(1)", desk.gauge(1, 9000, 9000));
        desk.tick(1);
        CHECKS.due("where(5, 4)", desk.where(5, 4), 1);
        CHECKS.due("where(6, 0)", desk.where(6, 0), 3);
    }

    private static void reportEndsWithTheClamping() {
        RopewayDesk desk = new RopewayDesk();
        Scenes.toClamping(desk, 0, 5);
        desk.gauge(0, 1, 1);
        desk.tick(1);
        desk.release(0);
        Scenes.toClamping(desk, 0, 5);
        CHECKS.due("where(5, 4)", desk.where(5, 4), 0);
        desk.tick(1);
        CHECKS.due("where(5, 4) without a new report", desk.where(5, 4), 1);
    }

    private static void edgesAndWrongInputs() {
        RopewayDesk desk = new RopewayDesk();
        CHECKS.no("gauge(0, 0, 0)", desk.gauge(0, 0, 0));
        CHECKS.no("gauge(1, 20000, 20000)", desk.gauge(1, 20000, 20000));
        Scenes.toClamping(desk, 0, 5);
        CHECKS.refused("gauge(-1, 0, 0)", () -> desk.gauge(-1, 0, 0));
        CHECKS.refused("gauge(2, 0, 0)", () -> desk.gauge(2, 0, 0));
        CHECKS.refused("gauge(0, -1, 0)", () -> desk.gauge(0, -1, 0));
        CHECKS.refused("gauge(0, 0, -1)", () -> desk.gauge(0, 0, -1));
        CHECKS.refused("gauge(0, 20001, 0)", () -> desk.gauge(0, 20001, 0));
        CHECKS.refused("gauge(0, 0, 20001)", () -> desk.gauge(0, 0, 20001));
        CHECKS.refused("gauge(1, 0, 20001) with nobody there", () -> desk.gauge(1, 0, 20001));
        desk.tick(1);
        CHECKS.due("where(5, 4) after wrong inputs", desk.where(5, 4), 1);
        CHECKS.yes("gauge(0, 20000, 20000)", desk.gauge(0, 20000, 20000));
        desk.tick(1);
        CHECKS.due("where(5, 0)", desk.where(5, 0), 3);
    }
}
