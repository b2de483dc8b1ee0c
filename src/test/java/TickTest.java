/** Promise 3, and the term TICK. */
public final class TickTest {
    private static final Checks CHECKS = new Checks("TickTest");

    public static void main(String[] args) {
        speedGoesByOne();
        wrongInputs();
        zonesTakeFifteenTicks();
        nextZoneMustBeEmpty();
        oneComesWhenTheOtherLeaves();
        clampingWaitsForItsAge();
        provedGrip();
        noReport();
        reportOnTheFortiethTick();
        failedOneGoesToTheSiding();
        failedOneWithoutRoomStays();
        everyLockHoldsClampingBack();
        clampingGoesOnUnderALock();
        station0IsWorkedFirst();
        spacingByPlan();
        spacingWithACrowd();
        spacingIsOfTheStation();
        windLocks();
        windSlows();
        for (int station = 0; station < 2; station++) {
            speedAtAnArrival(station, 1, 0);
            speedAtAnArrival(station, 1, 59);
        }
        CHECKS.end();
    }

    private static void speedGoesByOne() {
        RopewayDesk desk = new RopewayDesk();
        CHECKS.due("tick(1) with DRIVE 0", desk.tick(1), 0);
        desk.drive(5);
        for (int i = 1; i <= 5; i++) {
            CHECKS.due("tick(1) going up", desk.tick(1), i);
        }
        CHECKS.due("tick(1) at the target", desk.tick(1), 5);
        desk.drive(2);
        CHECKS.due("tick(1) going down", desk.tick(1), 4);
        CHECKS.due("tick(100)", desk.tick(100), 2);
        CHECKS.due("state(8)", desk.state(8), 108);
    }

    private static void wrongInputs() {
        RopewayDesk desk = new RopewayDesk();
        desk.drive(3);
        for (int n : new int[] {0, -1, 101, Integer.MIN_VALUE, Integer.MAX_VALUE}) {
            CHECKS.refused("tick(" + n + ")", () -> desk.tick(n));
        }
        CHECKS.due("state(8) after wrong inputs", desk.state(8), 0);
        CHECKS.due("state(0) after wrong inputs", desk.state(0), 0);
    }

    private static void zonesTakeFifteenTicks() {
        RopewayDesk desk = new RopewayDesk();
        Scenes.toRope(desk, 0, 1);
        Scenes.pulses(desk, 5700);
        for (int tick = 0; tick < 165; tick++) {
            CHECKS.due("where(1, 1) after " + tick, desk.where(1, 1), 1 + tick / 15);
            CHECKS.due("where(1, 3) after " + tick, desk.where(1, 3), tick % 15);
            desk.tick(1);
        }
        CHECKS.due("where(1, 1)", desk.where(1, 1), 12);
    }

    private static void nextZoneMustBeEmpty() {
        RopewayDesk desk = new RopewayDesk();
        desk.wind(300);
        Scenes.rowOf(desk, 0, 1, 2);
        Scenes.ticks(desk, 90);
        CHECKS.due("where(1, 1)", desk.where(1, 1), 12);
        CHECKS.due("where(2, 1)", desk.where(2, 1), 11);
        Scenes.ticks(desk, 50);
        CHECKS.due("where(2, 1) behind a taken zone", desk.where(2, 1), 11);
        CHECKS.due("where(2, 3) behind a taken zone", desk.where(2, 3), 50);
        CHECKS.due("where(1, 3)", desk.where(1, 3), 50);
        CHECKS.due("where(1, 4) while a lock stands", desk.where(1, 4), -1);
    }

    private static void oneComesWhenTheOtherLeaves() {
        RopewayDesk desk = new RopewayDesk();
        Scenes.rowOf(desk, 0, 1, 2);
        Scenes.ticks(desk, 105);
        CHECKS.due("where(1, 4)", desk.where(1, 4), 0);
        CHECKS.due("where(2, 3)", desk.where(2, 3), 15);
        desk.tick(2);
        desk.gauge(0, 9000, 9000);
        desk.tick(1);
        CHECKS.due("where(1, 0)", desk.where(1, 0), 3);
        CHECKS.due("where(2, 1)", desk.where(2, 1), 12);
        CHECKS.due("where(2, 3)", desk.where(2, 3), 0);
        CHECKS.due("where(2, 4)", desk.where(2, 4), -1);
    }

    private static void clampingWaitsForItsAge() {
        RopewayDesk desk = new RopewayDesk();
        Scenes.toZone5(desk, 1, 1);
        Scenes.ticks(desk, 119);
        CHECKS.due("where(1, 3)", desk.where(1, 3), 14);
        CHECKS.due("where(1, 4)", desk.where(1, 4), -1);
        desk.tick(1);
        CHECKS.due("where(1, 3)", desk.where(1, 3), 15);
        CHECKS.due("where(1, 4)", desk.where(1, 4), 0);
        desk.tick(1);
        CHECKS.due("where(1, 3) goes on", desk.where(1, 3), 16);
        CHECKS.due("where(1, 4) goes on", desk.where(1, 4), 1);
    }

    private static void provedGrip() {
        int[][] leftRightFault = {
            {4001, 4001, 0}, {4000, 4001, 1}, {4001, 4000, 1}, {4000, 4000, 1}, {0, 20000, 1}, {20000, 0, 1},
            {0, 0, 1}, {20000, 20000, 0}, {10000, 9700, 0}, {9700, 10000, 0}, {10000, 9699, 2}, {9699, 10000, 2},
            {5000, 5154, 0}, {5000, 5155, 2}, {5154, 5000, 0}, {5155, 5000, 2}, {4001, 20000, 2}, {20000, 4001, 2},
            {19400, 20000, 0}, {19399, 20000, 2},
        };
        for (int[] row : leftRightFault) {
            RopewayDesk desk = new RopewayDesk();
            Scenes.toClamping(desk, 0, 1);
            desk.gauge(0, row[0], row[1]);
            desk.tick(1);
            String call = " with " + row[0] + " and " + row[1];
            CHECKS.due("where(1, 0)" + call, desk.where(1, 0), row[2] == 0 ? 3 : 1);
            CHECKS.due("where(1, 6)" + call, desk.where(1, 6), row[2] == 0 ? 1 : 0);
            CHECKS.due("where(1, 7)" + call, desk.where(1, 7), row[2]);
            CHECKS.due("locks()" + call, desk.locks(), row[2] == 0 ? 0 : 1);
        }
    }

    private static void noReport() {
        RopewayDesk desk = new RopewayDesk();
        Scenes.toClamping(desk, 0, 1);
        Scenes.ticks(desk, 39);
        CHECKS.due("where(1, 4)", desk.where(1, 4), 39);
        CHECKS.due("locks()", desk.locks(), 0);
        desk.tick(1);
        CHECKS.due("where(1, 0)", desk.where(1, 0), 1);
        CHECKS.due("where(1, 4)", desk.where(1, 4), -1);
        CHECKS.due("where(1, 7)", desk.where(1, 7), 3);
        CHECKS.due("locks()", desk.locks(), 1);
    }

    private static void reportOnTheFortiethTick() {
        RopewayDesk desk = new RopewayDesk();
        Scenes.toClamping(desk, 0, 1);
        Scenes.ticks(desk, 39);
        desk.gauge(0, 9000, 9000);
        desk.tick(1);
        CHECKS.due("where(1, 0) with a good report", desk.where(1, 0), 3);
        CHECKS.due("where(1, 7) with a good report", desk.where(1, 7), 0);
        RopewayDesk bad = new RopewayDesk();
        Scenes.toClamping(bad, 0, 1);
        Scenes.ticks(bad, 39);
        bad.gauge(0, 5000, 9000);
        bad.tick(1);
        CHECKS.due("where(1, 7) with a bad report", bad.where(1, 7), 2);
    }

    private static void failedOneGoesToTheSiding() {
        RopewayDesk desk = new RopewayDesk();
        Scenes.toClamping(desk, 1, 1);
        Scenes.bringRow(desk, 20, 19);
        desk.gauge(1, 1, 1);
        desk.tick(1);
        CHECKS.due("sided(19)", desk.sided(19), 1);
        CHECKS.due("locks() with the last place taken", desk.locks(), 1);
        CHECKS.due("state(6)", desk.state(6), 0);
        CHECKS.due("where(1, 3)", desk.where(1, 3), -1);
        CHECKS.no("gauge of the empty zone", desk.gauge(1, 9000, 9000));
    }

    private static void failedOneWithoutRoomStays() {
        RopewayDesk desk = new RopewayDesk();
        Scenes.toClamping(desk, 1, 1);
        Scenes.bringRow(desk, 20, 20);
        desk.gauge(1, 1, 1);
        desk.tick(1);
        CHECKS.due("locks()", desk.locks(), 3);
        CHECKS.due("where(1, 1)", desk.where(1, 1), 12);
        CHECKS.due("where(1, 3)", desk.where(1, 3), 0);
        CHECKS.due("where(1, 4)", desk.where(1, 4), -1);
        CHECKS.due("where(1, 7)", desk.where(1, 7), 1);
        desk.release(0);
        desk.putOn(0, 20);
        desk.release(1);
        CHECKS.due("locks()", desk.locks(), 0);
        desk.tick(14);
        CHECKS.due("where(1, 4) with AGE 14", desk.where(1, 4), -1);
        desk.tick(1);
        CHECKS.due("where(1, 4) with AGE 15", desk.where(1, 4), 0);
        desk.tick(1);
        CHECKS.due("where(1, 4) without the old report", desk.where(1, 4), 1);
    }

    private static void everyLockHoldsClampingBack() {
        RopewayDesk desk = new RopewayDesk();
        Scenes.toZone5(desk, 1, 1);
        Scenes.toClamping(desk, 0, 2);
        CHECKS.due("where(1, 4) without a lock", desk.where(1, 4), 0);

        RopewayDesk gripped = new RopewayDesk();
        Scenes.toClamping(gripped, 0, 2);
        Scenes.toZone5(gripped, 1, 1);
        Scenes.ticks(gripped, 120);
        CHECKS.due("locks()", gripped.locks(), 1);
        CHECKS.due("where(1, 4) with GRIP", gripped.where(1, 4), -1);
        gripped.release(0);
        gripped.tick(1);
        CHECKS.due("where(1, 4) after the release", gripped.where(1, 4), 0);

        RopewayDesk bumped = Scenes.heldUp(1, 2);
        bumped.pulse(1);
        Scenes.toClamping(bumped, 0, 3);
        CHECKS.due("where(3, 4) with BUMP", bumped.where(3, 4), -1);
        CHECKS.due("where(3, 3) with BUMP", bumped.where(3, 3), 15);

        RopewayDesk full = new RopewayDesk();
        Scenes.toClamping(full, 0, 1);
        Scenes.bringRow(full, 20, 20);
        Scenes.ticks(full, 40);
        CHECKS.due("locks()", full.locks(), 3);
        full.release(0);
        Scenes.ticks(full, 30);
        CHECKS.due("where(1, 4) with FULL", full.where(1, 4), -1);
        CHECKS.due("where(1, 3) with FULL", full.where(1, 3), 30);
    }

    private static void clampingGoesOnUnderALock() {
        RopewayDesk desk = new RopewayDesk();
        Scenes.toClamping(desk, 0, 1);
        desk.wind(900);
        desk.tick(1);
        CHECKS.due("locks()", desk.locks(), 4);
        CHECKS.due("where(1, 4)", desk.where(1, 4), 1);
        desk.gauge(0, 9000, 9000);
        desk.tick(1);
        CHECKS.due("where(1, 0)", desk.where(1, 0), 3);
        CHECKS.due("where(1, 6)", desk.where(1, 6), 1);
    }

    private static void station0IsWorkedFirst() {
        for (int failing = 0; failing < 2; failing++) {
            RopewayDesk desk = new RopewayDesk();
            Scenes.toZone5(desk, failing, 1);
            desk.tick(40);
            Scenes.toZone5(desk, 1 - failing, 2);
            Scenes.ticks(desk, 119);
            CHECKS.due("where(1, 4)", desk.where(1, 4), 39);
            CHECKS.due("where(2, 3)", desk.where(2, 3), 14);
            desk.tick(1);
            CHECKS.due("locks()", desk.locks(), 1);
            CHECKS.due("where(2, 4) with station " + failing + " failing", desk.where(2, 4), failing == 0 ? -1 : 0);
        }
    }

    private static void spacingByPlan() {
        int[][] perHourAndSpacing = {{900, 200}, {886, 200}, {885, 203}, {600, 300}, {105, 1714}, {30, 6000}};
        for (int[] row : perHourAndSpacing) {
            RopewayDesk desk = new RopewayDesk();
            desk.plan(row[0]);
            Scenes.toRope(desk, 0, 1);
            Scenes.toClamping(desk, 0, 2);
            CHECKS.due("where(2, 4) with 0 done", desk.where(2, 4), -1);
            int before = Math.min(row[1], 5700) - 1;
            Scenes.pulses(desk, before);
            desk.tick(1);
            CHECKS.due("where(2, 4) with " + before + " done", desk.where(2, 4), -1);
            desk.pulse(1);
            desk.tick(1);
            CHECKS.due("where(2, 4) with one more done", desk.where(2, 4), 0);
        }
    }

    private static void spacingWithACrowd() {
        for (int cabins = 5; cabins <= 6; cabins++) {
            RopewayDesk desk = new RopewayDesk();
            Scenes.toRope(desk, 0, 50);
            desk.pulse(89);
            Scenes.rowOf(desk, 0, 1, cabins);
            Scenes.ticks(desk, 120 - 15 * (cabins - 1));
            CHECKS.due("where(1, 3)", desk.where(1, 3), 15);
            CHECKS.due("where(1, 4) with 89 done and " + cabins, desk.where(1, 4), -1);
            desk.pulse(1);
            desk.tick(1);
            CHECKS.due("where(1, 4) with 90 done and " + cabins, desk.where(1, 4), cabins == 6 ? 0 : -1);
            desk.pulse(109);
            desk.tick(1);
            CHECKS.due("where(1, 4) with 199 done and " + cabins, desk.where(1, 4), cabins == 6 ? 1 : -1);
            desk.pulse(1);
            desk.tick(1);
            CHECKS.due("where(1, 4) with 200 done and " + cabins, desk.where(1, 4), cabins == 6 ? 2 : 0);
        }
        crowdOfTheOtherStationDoesNotCount();
    }

    private static void crowdOfTheOtherStationDoesNotCount() {
        RopewayDesk desk = new RopewayDesk();
        Scenes.toRope(desk, 0, 50);
        desk.pulse(100);
        Scenes.toZone5(desk, 0, 10);
        Scenes.rowOf(desk, 1, 1, 6);
        Scenes.ticks(desk, 45);
        CHECKS.due("where(10, 3)", desk.where(10, 3), 15);
        CHECKS.due("state(6)", desk.state(6), 7);
        CHECKS.due("locks()", desk.locks(), 0);
        CHECKS.due("where(1, 4)", desk.where(1, 4), 0);
        CHECKS.due("where(10, 4)", desk.where(10, 4), -1);
    }

    private static void spacingIsOfTheStation() {
        RopewayDesk desk = new RopewayDesk();
        Scenes.toRope(desk, 0, 1);
        Scenes.toClamping(desk, 1, 2);
        CHECKS.due("where(2, 4) with one just left station 0", desk.where(2, 4), 0);
    }

    private static void windLocks() {
        RopewayDesk desk = new RopewayDesk();
        desk.drive(2);
        desk.tick(3);
        desk.wind(250);
        desk.tick(1);
        CHECKS.due("locks() with 250", desk.locks(), 0);
        desk.wind(251);
        CHECKS.due("locks() before the tick", desk.locks(), 0);
        CHECKS.due("tick(1)", desk.tick(1), 1);
        CHECKS.due("locks() with 251", desk.locks(), 4);
        Scenes.report(desk, 0, 0, 0);
        CHECKS.due("tick(1) with the lock standing", desk.tick(1), 0);
        CHECKS.due("locks() with the wind gone", desk.locks(), 4);
    }

    private static void windSlows() {
        RopewayDesk desk = new RopewayDesk();
        desk.drive(4);
        desk.wind(180);
        CHECKS.due("tick(9) with 180", desk.tick(9), 4);
        desk.wind(181);
        CHECKS.due("tick(1) with 181", desk.tick(1), 3);
        CHECKS.due("tick(9) with 181", desk.tick(9), 2);
        desk.drive(1);
        CHECKS.due("tick(9) with DRIVE 1", desk.tick(9), 1);
        desk.drive(5);
        CHECKS.due("tick(9) with DRIVE 5", desk.tick(9), 2);
        CHECKS.due("state(1)", desk.state(1), 5);
        Scenes.report(desk, 0, 0);
        CHECKS.due("tick(9) with the wind gone", desk.tick(9), 5);
    }

    private static void speedAtAnArrival(int station, int ahead, int behind) {
        RopewayDesk desk = new RopewayDesk();
        desk.drive(3);
        Scenes.toZone5(desk, station, ahead);
        desk.tick(15);
        Scenes.toZone5(desk, station, behind);
        desk.tick(15);
        Scenes.rowOf(desk, station, 10, 5);
        Scenes.ticks(desk, 30);
        desk.gauge(station, 9000, 9000);
        desk.tick(1);
        desk.pulse(90);
        desk.tick(15);
        desk.gauge(station, 9000, 9000);
        desk.tick(1);
        Scenes.pulses(desk, 5610);
        CHECKS.due("where of the one ahead", desk.where(ahead, 1), 1);
        CHECKS.due("where of the one behind", desk.where(behind, 1), 5610);
        CHECKS.due("tick(1) with 5610 done", desk.tick(1), 3);
        desk.pulse(29);
        CHECKS.due("tick(1) with 5639 done", desk.tick(1), 3);
        desk.pulse(1);
        CHECKS.due("tick(1) with 5640 done", desk.tick(1), 2);
        CHECKS.due("tick(9) with 5640 done", desk.tick(9), 0);
        CHECKS.due("tick(2) before zone 1 is empty", desk.tick(2), 0);
        CHECKS.due("tick(1) when zone 1 is empty", desk.tick(1), 1);
    }
}
