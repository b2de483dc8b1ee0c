/** Of the term TICK: when a cabin in zone 12 begins to clamp. */
public final class TurnTest {
    private static final Checks CHECKS = new Checks("TurnTest");

    public static void main(String[] args) {
        for (int station = 0; station < 2; station++) {
            itsAge(station);
            crowd(station);
            zone1CountsInTheCrowd(station);
            crowdOfTheOtherStation(station);
            otherStationsCabins(station);
            nearestOneCounts(station);
            longSpacing(station);
        }
        everyLock();
        for (int planned = 3; planned <= 60; planned++) {
            spacingByPlan(planned);
        }
        bothStationsAtOnce();
        CHECKS.end();
    }

    private static void itsAge(int station) {
        CHECKS.sentence("Not clamping, with an AGE of 15 or more");
        RopewayDesk desk = new RopewayDesk();
        Scenes.toZone5(desk, station, 1);
        Scenes.ticks(desk, 119);
        CHECKS.where("with AGE 14", desk, 1, 2, 12, station, 14, -1);
        desk.tick(1);
        CHECKS.where("with AGE 15", desk, 1, 2, 12, station, 15, 0);
    }

    private static void everyLock() {
        CHECKS.sentence("when no lock stands");
        for (int code = 0; code < 4; code++) {
            RopewayDesk desk = Scenes.locked(code);
            desk.tick(1);
            CHECKS.due("locks()", desk.locks(), 1 << code);
            CHECKS.yes("AGE of 15 or more", desk.where(Scenes.WAITING, 3) >= 15);
            CHECKS.due("where(50, 4) with lock " + code, desk.where(Scenes.WAITING, 4), -1);
            Scenes.mend(desk, code);
            desk.tick(1);
            CHECKS.due("where(50, 4) with lock " + code + " without its cause", desk.where(Scenes.WAITING, 4), -1);
            desk.release(code);
            CHECKS.due("where(50, 4) before the tick", desk.where(Scenes.WAITING, 4), -1);
            desk.tick(1);
            CHECKS.due("where(50, 4) after the release", desk.where(Scenes.WAITING, 4), 0);
        }
    }

    /** The least part, 90, can't be come to by the plan: PLANNED is 60 at most, so 200 is the least. */
    private static void spacingByPlan(int planned) {
        CHECKS.sentence("SPACING: 12,000 by PLANNED (the whole part)");
        RopewayDesk desk = Scenes.onRope(0, 1, 0);
        CHECKS.due("plan", desk.plan(15 * planned), planned);
        Scenes.toClamping(desk, 0, 2);
        CHECKS.where("with AGE 15 and 0 done", desk, 2, 2, 12, 0, 15, -1);
        int spacing = 12000 / planned;
        Scenes.pulses(desk, spacing - 1);
        desk.tick(1);
        CHECKS.due("where(2, 4) with " + (spacing - 1) + " done", desk.where(2, 4), -1);
        desk.pulse(1);
        desk.tick(1);
        CHECKS.due("where(2, 4) with " + spacing + " done", desk.where(2, 4), 0);
    }

    /** 6,000 and 12,000 are more than a cabin ever does: the one before must have let go. */
    private static void longSpacing(int station) {
        CHECKS.sentence("SPACING: 12,000 by PLANNED (the whole part)");
        for (int planned = 1; planned <= 2; planned++) {
            RopewayDesk desk = Scenes.heldUp(station, 1, 2);
            Scenes.toZone5(desk, station, 3);
            desk.plan(15 * planned);
            Scenes.ticks(desk, 120);
            CHECKS.where("on the rope", desk, 2, 3, 5700, station);
            CHECKS.where("with one at 5,700 and PLANNED " + planned, desk, 3, 2, 12, station, 15, -1);
            desk.pulse(0);
            desk.tick(1);
            CHECKS.where("with none on the rope", desk, 3, 2, 12, station, 16, 0);
        }
    }

    private static void crowd(int station) {
        CHECKS.sentence("when six or more cabins are in zones of this station, 90.");
        for (int cabins = 5; cabins <= 7; cabins++) {
            for (int planned : new int[] {1, 60}) {
                RopewayDesk desk = Scenes.onRope(station, 50, 89);
                Scenes.rowOf(desk, station, 1, cabins);
                desk.plan(15 * planned);
                Scenes.ticks(desk, 120 - 15 * (cabins - 1));
                String when = " with " + cabins + " in zones and PLANNED " + planned;
                CHECKS.due("where(1, 3)" + when, desk.where(1, 3), 15);
                CHECKS.due("where(1, 4)" + when + " and 89 done", desk.where(1, 4), -1);
                desk.pulse(1);
                desk.tick(1);
                CHECKS.due("where(1, 4)" + when + " and 90 done", desk.where(1, 4), cabins >= 6 ? 0 : -1);
                desk.pulse(109);
                desk.tick(1);
                CHECKS.due("where(1, 4)" + when + " and 199 done", desk.where(1, 4), cabins >= 6 ? 1 : -1);
            }
        }
    }

    private static void zone1CountsInTheCrowd(int station) {
        CHECKS.sentence("when six or more cabins are in zones of this station, 90.");
        RopewayDesk desk = Scenes.onRope(1 - station, 40, 5600);
        Scenes.toRope(desk, station, 50);
        Scenes.rowOf(desk, station, 0, 5);
        desk.tick(60);
        CHECKS.where("with AGE 15", desk, 0, 2, 12, station, 15, -1);
        desk.pulse(99);
        desk.tick(1);
        CHECKS.where("with five in zones and one at 5,699", desk, 0, 2, 12, station, 16, -1);
        desk.pulse(1);
        desk.tick(1);
        CHECKS.where("with the sixth in zone 1", desk, 40, 2, 1, station);
        CHECKS.where("with the sixth in zone 1", desk, 0, 2, 12, station, 17, 0);
    }

    private static void crowdOfTheOtherStation(int station) {
        CHECKS.sentence("when six or more cabins are in zones of this station, 90.");
        RopewayDesk desk = Scenes.onRope(station, 50, 199);
        Scenes.toZone5(desk, station, 10);
        Scenes.bringRow(desk, 20, 6);
        Scenes.rowOf(desk, 1 - station, 1, 6);
        desk.tick(45);
        CHECKS.due("state(6)", desk.state(6), 7);
        CHECKS.where("in the crowd", desk, 1, 2, 12, 1 - station, 15, 0);
        CHECKS.where("beside the crowd, with 199 done", desk, 10, 2, 12, station, 15, -1);
        desk.pulse(1);
        desk.tick(1);
        CHECKS.where("beside the crowd, with 200 done", desk, 10, 2, 12, station, 16, 0);
    }

    private static void otherStationsCabins(int station) {
        CHECKS.sentence("no cabin on the rope that left this station has done less than the SPACING");
        RopewayDesk desk = Scenes.onRope(1 - station, 1, 0);
        Scenes.toClamping(desk, station, 2);
        CHECKS.where("with one that just left the other station", desk, 2, 2, 12, station, 15, 0);
    }

    private static void nearestOneCounts(int station) {
        CHECKS.sentence("no cabin on the rope that left this station has done less than the SPACING");
        for (int[] order : new int[][] {{0, 59}, {59, 0}, {0, 1}, {59, 58}}) {
            RopewayDesk desk = Scenes.onRope(station, order[0], 200);
            Scenes.toRope(desk, station, order[1]);
            Scenes.toClamping(desk, station, 30);
            desk.pulse(199);
            desk.tick(1);
            CHECKS.due("where(30, 4) with 399 and 199 done", desk.where(30, 4), -1);
            desk.pulse(1);
            desk.tick(1);
            CHECKS.due("where(30, 4) with 400 and 200 done", desk.where(30, 4), 0);
        }
    }

    private static void bothStationsAtOnce() {
        CHECKS.sentence("it is clamping, for 0 ticks, without a report.");
        RopewayDesk desk = new RopewayDesk();
        Scenes.toZone5(desk, 0, 1);
        Scenes.toClamping(desk, 1, 2);
        CHECKS.where("in station 0", desk, 1, 2, 12, 0, 15, 0);
        CHECKS.where("in station 1", desk, 2, 2, 12, 1, 15, 0);
        desk.tick(1);
        CHECKS.where("in station 0, without a report", desk, 1, 2, 12, 0, 16, 1);
        CHECKS.where("in station 1, without a report", desk, 2, 2, 12, 1, 16, 1);
    }
}
