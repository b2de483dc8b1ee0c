/** Promise 3, and of the term TICK the wind's lock and the SPEED. */
public final class TickTest {
    private static final Checks CHECKS = new Checks("TickTest");
    private static final Refusals REFUSALS = new Refusals(CHECKS);

    public static void main(String[] args) {
        wrongInputs();
        ticksAreCounted();
        windLocks();
        gustsDoNotCount();
        windLocksBeforeTheZones();
        speedGoesByOne();
        locksStopTheRope();
        lockOfTheSameTickCounts();
        for (int station = 0; station < 2; station++) {
            nearAnArrival(station, 1, 0);
            nearAnArrival(station, 0, 59);
            atTheEnd(station);
            zone1BehindDoesNotCount(station);
            otherZonesAheadDoNotCount(station);
        }
        windSlows();
        CHECKS.end();
    }

    private static void wrongInputs() {
        CHECKS.sentence("IllegalArgumentException: n is not 1 .. 100.");
        REFUSALS.beyond("tick", 1, 100, RopewayDesk::tick);
        REFUSALS.byException("tick of -1", Scenes::busy, desk -> desk.tick(-1));
        REFUSALS.byException("tick of 0 in a storm", Scenes::windBeforeATick, desk -> desk.tick(0));
        REFUSALS.byException("tick of 101 in a storm", Scenes::windBeforeATick, desk -> desk.tick(101));
    }

    private static void ticksAreCounted() {
        CHECKS.sentence("n times TICK: the SPEED.");
        RopewayDesk desk = new RopewayDesk();
        Scenes.toZone5(desk, 0, 1);
        desk.drive(5);
        CHECKS.due("tick(1)", desk.tick(1), 1);
        CHECKS.due("where(1, 3)", desk.where(1, 3), 1);
        CHECKS.due("tick(2)", desk.tick(2), 3);
        CHECKS.due("tick(100)", desk.tick(100), 5);
        CHECKS.due("state(8)", desk.state(8), 103);
        CHECKS.where("after 103 ticks", desk, 1, 2, 11, 0, 13);
    }

    private static void windLocks() {
        CHECKS.sentence("When the WIND is above 250, WIND stands.");
        RopewayDesk desk = new RopewayDesk();
        desk.wind(250);
        desk.tick(100);
        CHECKS.due("locks() with 250", desk.locks(), 0);
        desk.wind(251);
        CHECKS.due("state(3)", desk.state(3), 251);
        CHECKS.due("locks() before the tick", desk.locks(), 0);
        desk.tick(1);
        CHECKS.due("locks() with 251", desk.locks(), 4);
        Scenes.report(desk, 0, 0, 0);
        desk.tick(1);
        CHECKS.due("locks() with the wind gone", desk.locks(), 4);
        desk.release(2);
        desk.tick(1);
        CHECKS.due("locks() after the release", desk.locks(), 0);
        Scenes.report(desk, 1000, 1000, 1000);
        desk.tick(1);
        CHECKS.due("locks() with 1,000", desk.locks(), 4);
    }

    private static void gustsDoNotCount() {
        CHECKS.sentence("When the WIND is above 250, WIND stands.");
        RopewayDesk desk = new RopewayDesk();
        desk.drive(4);
        Scenes.report(desk, 180, 180, 1000);
        CHECKS.due("tick(4) in a gust", desk.tick(4), 4);
        CHECKS.due("locks() in a gust", desk.locks(), 0);
        Scenes.report(desk, 1000, 0);
        CHECKS.due("tick(1) with two gusts of five", desk.tick(1), 4);
        CHECKS.due("locks() with two gusts of five", desk.locks(), 0);
        Scenes.report(desk, 251, 0);
        CHECKS.due("state(3) with three gusts of five", desk.state(3), 251);
        desk.tick(1);
        CHECKS.due("locks() with three gusts of five", desk.locks(), 4);
    }

    private static void windLocksBeforeTheZones() {
        CHECKS.sentence("TICK, in this order:");
        RopewayDesk desk = new RopewayDesk();
        Scenes.toZone5(desk, 0, 1);
        Scenes.ticks(desk, 119);
        desk.wind(251);
        desk.tick(1);
        CHECKS.where("in the tick that locks", desk, 1, 2, 12, 0, 15, -1);
    }

    private static void speedGoesByOne() {
        CHECKS.sentence("The SPEED goes to its target, by at most one");
        RopewayDesk desk = new RopewayDesk();
        CHECKS.due("tick(1) with DRIVE 0", desk.tick(1), 0);
        desk.drive(5);
        for (int speed = 1; speed <= 5; speed++) {
            CHECKS.due("tick(1) going up", desk.tick(1), speed);
            CHECKS.due("state(0) going up", desk.state(0), speed);
        }
        CHECKS.due("tick(1) at the target", desk.tick(1), 5);
        desk.drive(4);
        CHECKS.due("tick(1) one above the target", desk.tick(1), 4);
        CHECKS.due("tick(1) at the target", desk.tick(1), 4);
        desk.drive(0);
        for (int speed = 3; speed >= 0; speed--) {
            CHECKS.due("tick(1) going down", desk.tick(1), speed);
        }
        CHECKS.due("tick(1) at 0", desk.tick(1), 0);
    }

    private static void locksStopTheRope() {
        CHECKS.sentence("the target is 0 when a lock stands");
        for (int code = 0; code < 4; code++) {
            RopewayDesk desk = Scenes.locked(code);
            CHECKS.due("locks()", desk.locks(), 1 << code);
            CHECKS.due("state(1)", desk.state(1), 3);
            CHECKS.due("tick(1) with lock " + code, desk.tick(1), 0);
            Scenes.mend(desk, code);
            CHECKS.due("tick(1) with lock " + code + " without its cause", desk.tick(1), 0);
            CHECKS.yes("release(" + code + ")", desk.release(code));
            CHECKS.due("tick(1) after the release", desk.tick(1), 1);
        }
        RopewayDesk desk = new RopewayDesk();
        desk.drive(3);
        desk.tick(3);
        desk.wind(251);
        for (int speed = 2; speed >= 0; speed--) {
            CHECKS.due("tick(1) with WIND", desk.tick(1), speed);
        }
        CHECKS.due("tick(1) with WIND at 0", desk.tick(1), 0);
    }

    private static void lockOfTheSameTickCounts() {
        CHECKS.sentence("the target is 0 when a lock stands");
        for (int station = 0; station < 2; station++) {
            RopewayDesk desk = Scenes.clamping(station, 1);
            desk.drive(4);
            desk.tick(4);
            desk.gauge(station, 0, 0);
            CHECKS.due("tick(1) in which a grip fails", desk.tick(1), 3);
        }
    }

    private static void nearAnArrival(int station, int ahead, int behind) {
        CHECKS.sentence("or a cabin that has done 5,640 or more has zone 1 ahead taken");
        RopewayDesk desk = Scenes.ninetyApart(station, ahead, behind);
        desk.drive(3);
        desk.tick(3);
        Scenes.pulses(desk, 5610);
        CHECKS.where("of the one ahead", desk, ahead, 2, 1, 1 - station);
        CHECKS.due("tick(1) with 5,610 done", desk.tick(1), 3);
        desk.pulse(29);
        CHECKS.due("tick(1) with 5,639 done", desk.tick(1), 3);
        desk.pulse(1);
        CHECKS.due("tick(1) with 5,640 done", desk.tick(1), 2);
        desk.pulse(1);
        CHECKS.due("tick(1) with 5,641 done", desk.tick(1), 1);
        CHECKS.due("tick(10) with zone 1 taken", desk.tick(10), 0);
        CHECKS.where("before zone 1 is empty", desk, ahead, 2, 1, 1 - station, 14);
        CHECKS.due("tick(1) when zone 1 is empty", desk.tick(1), 1);
    }

    private static void atTheEnd(int station) {
        CHECKS.sentence("or a cabin that has done 5,640 or more has zone 1 ahead taken");
        RopewayDesk desk = Scenes.heldUp(station, 1, 2);
        desk.drive(3);
        CHECKS.due("tick(14) with 5,700 done and zone 1 taken", desk.tick(14), 0);
        CHECKS.due("locks()", desk.locks(), 0);
        CHECKS.due("tick(1) with 5,700 done and zone 1 empty", desk.tick(1), 1);
    }

    private static void zone1BehindDoesNotCount(int station) {
        CHECKS.sentence("or a cabin that has done 5,640 or more has zone 1 ahead taken");
        RopewayDesk desk = Scenes.onRope(1 - station, 1, 30);
        Scenes.toRope(desk, station, 2);
        Scenes.pulses(desk, 5670);
        CHECKS.where("in zone 1 of the station that the other left", desk, 1, 2, 1, station);
        CHECKS.where("near the end", desk, 2, 3, 5670, station);
        desk.drive(3);
        CHECKS.due("tick(3) with zone 1 behind taken", desk.tick(3), 3);
    }

    private static void otherZonesAheadDoNotCount(int station) {
        CHECKS.sentence("or a cabin that has done 5,640 or more has zone 1 ahead taken");
        RopewayDesk desk = Scenes.heldUp(station, 1, 2);
        desk.tick(15);
        desk.drive(3);
        CHECKS.where("of the one ahead", desk, 1, 2, 2);
        CHECKS.where("at the end", desk, 2, 3, 5700);
        CHECKS.due("tick(3) with zone 2 ahead taken", desk.tick(3), 3);
    }

    private static void windSlows() {
        CHECKS.sentence("otherwise DRIVE, but at most 2 when the WIND is above 180.");
        for (int step = 0; step <= 5; step++) {
            RopewayDesk desk = new RopewayDesk();
            desk.drive(step);
            desk.wind(180);
            CHECKS.due("tick(9) with 180 and DRIVE " + step, desk.tick(9), step);
            desk.wind(181);
            int slow = Math.min(step, 2);
            CHECKS.due("tick(1) with 181 and DRIVE " + step, desk.tick(1), Math.max(step - 1, slow));
            CHECKS.due("tick(9) with 181 and DRIVE " + step, desk.tick(9), slow);
            Scenes.report(desk, 250, 250, 250);
            CHECKS.due("tick(9) with 250 and DRIVE " + step, desk.tick(9), slow);
            CHECKS.due("state(1)", desk.state(1), step);
            CHECKS.due("locks() with 250", desk.locks(), 0);
            Scenes.report(desk, 180, 180, 180);
            CHECKS.due("tick(9) with 180 and DRIVE " + step, desk.tick(9), step);
        }
    }
}
