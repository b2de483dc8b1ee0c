/** Of the term TICK: what a cabin does that is CLAMPING. */
public final class ClampingTest {
    private static final Checks CHECKS = new Checks("ClampingTest");

    public static void main(String[] args) {
        forOneTickMore();
        proved();
        withoutAReport();
        reportWithTheFortiethTick();
        failedOneComesToTheSiding();
        failedOneWithoutRoom();
        noRoomWithoutAReport();
        lastPlaceGoesToStation0();
        tripsAreOneMore();
        faultIsTheLatest();
        locksDoNotHoldClamping();
        CHECKS.end();
    }

    private static void forOneTickMore() {
        CHECKS.sentence("CLAMPING: for one tick more.");
        for (int station = 0; station < 2; station++) {
            RopewayDesk desk = Scenes.clamping(station, 1);
            for (int tick = 0; tick < 40; tick++) {
                CHECKS.where("after " + tick, desk, 1, 2, 12, station, 15 + tick, tick);
                desk.tick(1);
            }
            CHECKS.where("after 40", desk, 1, 1, 0, -1, -1, -1);
        }
    }

    private static void proved() {
        CHECKS.sentence("it is PROVED when both forces are above 4,000 and a hundred times their difference is at most three times the greater one");
        int[][] leftRightFault = {
            {4001, 4001, 0}, {4000, 4001, 1}, {4001, 4000, 1}, {4000, 4000, 1}, {3999, 3999, 1}, {0, 0, 1},
            {0, 20000, 1}, {20000, 0, 1}, {4000, 20000, 1}, {20000, 4000, 1}, {4001, 20000, 2}, {20000, 4001, 2},
            {20000, 20000, 0}, {19400, 20000, 0}, {20000, 19400, 0}, {19399, 20000, 2}, {20000, 19399, 2},
            {10000, 9700, 0}, {9700, 10000, 0}, {10000, 9699, 2}, {9699, 10000, 2},
            {5000, 5154, 0}, {5154, 5000, 0}, {5000, 5155, 2}, {5155, 5000, 2},
            {4001, 4124, 0}, {4124, 4001, 0}, {4001, 4125, 2}, {4125, 4001, 2},
        };
        for (int[] row : leftRightFault) {
            for (int station = 0; station < 2; station++) {
                RopewayDesk desk = Scenes.clamping(station, 1);
                desk.gauge(station, row[0], row[1]);
                desk.tick(1);
                String when = "with " + row[0] + " and " + row[1];
                if (row[2] == 0) {
                    CHECKS.where(when, desk, 1, 3, 0, station, -1, -1, 0, 1, 0);
                } else {
                    CHECKS.where(when, desk, 1, 1, 0, -1, -1, -1, 0, 0, row[2]);
                }
                CHECKS.due("locks() " + when, desk.locks(), row[2] == 0 ? 0 : 1);
            }
        }
    }

    private static void withoutAReport() {
        CHECKS.sentence("Otherwise, or without a report with the 40th tick, it fails");
        RopewayDesk desk = Scenes.clamping(0, 1);
        desk.tick(39);
        CHECKS.where("with the 39th tick", desk, 1, 2, 12, 0, 54, 39, 0, 0, 0);
        CHECKS.due("locks() with the 39th tick", desk.locks(), 0);
        desk.tick(1);
        CHECKS.where("with the 40th tick", desk, 1, 1, 0, -1, -1, -1, 0, 0, 3);
        CHECKS.due("locks() with the 40th tick", desk.locks(), 1);
    }

    private static void reportWithTheFortiethTick() {
        CHECKS.sentence("Otherwise, or without a report with the 40th tick, it fails");
        int[][] leftRightFault = {{9000, 9000, 0}, {9000, 4000, 1}, {9000, 5000, 2}};
        for (int[] row : leftRightFault) {
            RopewayDesk desk = Scenes.clamping(0, 1);
            desk.tick(39);
            CHECKS.yes("gauge after 39 ticks", desk.gauge(0, row[0], row[1]));
            desk.tick(1);
            CHECKS.due("where(1, 0)", desk.where(1, 0), row[2] == 0 ? 3 : 1);
            CHECKS.due("where(1, 7)", desk.where(1, 7), row[2]);
        }
    }

    private static void failedOneComesToTheSiding() {
        CHECKS.sentence("it comes to the end of the siding, if there is room");
        for (int before : new int[] {0, 1, 18, 19}) {
            RopewayDesk desk = Scenes.clamping(1, 1);
            Scenes.bringRow(desk, 20, before);
            Scenes.failGrip(desk, 1);
            CHECKS.where("with " + before + " in the siding", desk, 1, 1, before, -1, -1, -1, 0, 0, 1);
            CHECKS.due("sided(" + before + ")", desk.sided(before), 1);
            CHECKS.due("locks() with " + before + " in the siding", desk.locks(), 1);
            CHECKS.due("state(6)", desk.state(6), 0);
            CHECKS.no("gauge of the empty zone", desk.gauge(1, 9000, 9000));
        }
    }

    private static void failedOneWithoutRoom() {
        CHECKS.sentence("otherwise FULL stands, and it is not clamping, AGE 0.");
        for (int station = 0; station < 2; station++) {
            RopewayDesk desk = Scenes.clamping(station, 1);
            Scenes.bringRow(desk, 20, 20);
            CHECKS.due("locks() with twenty in the siding", desk.locks(), 0);
            Scenes.failGrip(desk, station);
            CHECKS.due("locks() without room", desk.locks(), 3);
            CHECKS.where("without room", desk, 1, 2, 12, station, 0, -1, 0, 0, 1);
            CHECKS.due("state(4)", desk.state(4), 20);
            CHECKS.no("gauge when it has failed", desk.gauge(station, 9000, 9000));
            desk.release(Scenes.GRIP);
            Scenes.mend(desk, Scenes.FULL);
            desk.release(Scenes.FULL);
            desk.tick(14);
            CHECKS.where("with AGE 14 anew", desk, 1, 2, 12, station, 14, -1);
            desk.tick(1);
            CHECKS.where("with AGE 15 anew", desk, 1, 2, 12, station, 15, 0);
            desk.tick(1);
            CHECKS.where("without the old report", desk, 1, 2, 12, station, 16, 1);
        }
    }

    private static void noRoomWithoutAReport() {
        CHECKS.sentence("otherwise FULL stands, and it is not clamping, AGE 0.");
        RopewayDesk desk = Scenes.clamping(0, 1);
        Scenes.bringRow(desk, 20, 20);
        desk.tick(39);
        CHECKS.due("locks() with the 39th tick", desk.locks(), 0);
        desk.tick(1);
        CHECKS.where("without a report and without room", desk, 1, 2, 12, 0, 0, -1, 0, 0, 3);
        CHECKS.due("locks() with the 40th tick", desk.locks(), 3);
    }

    private static void lastPlaceGoesToStation0() {
        CHECKS.sentence("it comes to the end of the siding, if there is room; otherwise FULL stands");
        RopewayDesk desk = new RopewayDesk();
        Scenes.toZone5(desk, 1, 1);
        Scenes.toClamping(desk, 0, 2);
        Scenes.bringRow(desk, 20, 19);
        desk.gauge(1, 1, 1);
        Scenes.failGrip(desk, 0);
        CHECKS.where("in station 0", desk, 2, 1, 19, -1);
        CHECKS.where("in station 1", desk, 1, 2, 12, 1, 0, -1, 0, 0, 1);
        CHECKS.due("locks()", desk.locks(), 3);
    }

    private static void tripsAreOneMore() {
        CHECKS.sentence("it leaves then, and is on the rope with 0 done; its TRIPS are one more.");
        RopewayDesk desk = new RopewayDesk();
        Scenes.toRope(desk, 0, 1);
        CHECKS.where("after the first trip began", desk, 1, 3, 0, 0, -1, -1, 0, 1);
        Scenes.pulses(desk, 5700);
        CHECKS.due("where(1, 6) when it has let go", desk.where(1, 6), 1);
        Scenes.ticks(desk, 180);
        Scenes.proveGrip(desk, 1);
        CHECKS.where("after the second trip began", desk, 1, 3, 0, 1, -1, -1, 0, 2);
        Scenes.pulses(desk, 5700);
        Scenes.ticks(desk, 180);
        Scenes.failGrip(desk, 0);
        CHECKS.where("after a failed grip", desk, 1, 1, 0, -1, -1, -1, 0, 2);
        CHECKS.due("state(7)", desk.state(7), 2);
    }

    private static void faultIsTheLatest() {
        CHECKS.sentence("its FAULT is 1 (a force not above 4,000), 2 (otherwise), 3 (without a report)");
        RopewayDesk desk = Scenes.clamping(0, 1);
        desk.tick(40);
        CHECKS.due("where(1, 7) without a report", desk.where(1, 7), 3);
        int[][] leftRightFault = {{4000, 4000, 1}, {9000, 4001, 2}, {20000, 0, 1}};
        for (int[] row : leftRightFault) {
            desk.release(Scenes.GRIP);
            Scenes.toClamping(desk, 0, 1);
            desk.gauge(0, row[0], row[1]);
            desk.tick(1);
            CHECKS.due("where(1, 7) after one more", desk.where(1, 7), row[2]);
        }
        desk.release(Scenes.GRIP);
        Scenes.toRope(desk, 0, 1);
        CHECKS.where("with a proved grip after a fault", desk, 1, 3, 0, 0, -1, -1, 0, 1, 1);
    }

    private static void locksDoNotHoldClamping() {
        CHECKS.sentence("CLAMPING: for one tick more.");
        RopewayDesk leaving = Scenes.clamping(0, 1);
        leaving.wind(900);
        leaving.tick(1);
        CHECKS.due("locks()", leaving.locks(), 4);
        CHECKS.where("under a lock", leaving, 1, 2, 12, 0, 16, 1);
        CHECKS.yes("gauge under a lock", leaving.gauge(0, 9000, 9000));
        leaving.tick(1);
        CHECKS.where("proved under a lock", leaving, 1, 3, 0, 0, -1, -1, 0, 1, 0);
        RopewayDesk failing = Scenes.clamping(0, 1);
        failing.wind(900);
        failing.tick(40);
        CHECKS.due("locks()", failing.locks(), 5);
        CHECKS.due("where(1, 7) under a lock", failing.where(1, 7), 3);
    }
}
