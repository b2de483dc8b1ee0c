/** States of a desk that many tests begin with. */
final class Scenes {
    static final int GRIP = 0;
    static final int FULL = 1;
    static final int WIND = 2;
    static final int BUMP = 3;

    /** The cabin of locked() that waits in zone 12 of station 0. */
    static final int WAITING = 50;

    /** The cabin of jam() that comes last, and finds no zone. */
    static final int LEFT_OVER = 24;

    private static final int TICKS_FROM_ZONE_5_TO_CLAMPING = 120;
    private static final int GOOD_FORCE = 9000;

    private Scenes() {
    }

    static void ticks(RopewayDesk desk, int n) {
        for (int left = n; left > 0; left -= 100) {
            desk.tick(Math.min(left, 100));
        }
    }

    static int pulses(RopewayDesk desk, int n) {
        int moved = 0;
        for (int left = n; left > 0; left -= 600) {
            moved += desk.pulse(Math.min(left, 600));
        }
        return moved;
    }

    static void report(RopewayDesk desk, int... speeds) {
        for (int speed : speeds) {
            desk.wind(speed);
        }
    }

    static void bringRow(RopewayDesk desk, int first, int n) {
        for (int i = 0; i < n; i++) {
            desk.bring(first + i);
        }
    }

    static void toZone5(RopewayDesk desk, int station, int cabin) {
        desk.bring(cabin);
        desk.putOn(station, cabin);
    }

    /** Cabins first .. first + n - 1, 15 ticks apart; the last one is in zone 5 with AGE 0. */
    static void rowOf(RopewayDesk desk, int station, int first, int n) {
        for (int i = 0; i < n; i++) {
            if (i > 0) {
                desk.tick(15);
            }
            toZone5(desk, station, first + i);
        }
    }

    /** With no lock standing and nobody in the way, the cabin is clamping for 0 ticks then. */
    static void toClamping(RopewayDesk desk, int station, int cabin) {
        toZone5(desk, station, cabin);
        ticks(desk, TICKS_FROM_ZONE_5_TO_CLAMPING);
    }

    static void proveGrip(RopewayDesk desk, int station) {
        desk.gauge(station, GOOD_FORCE, GOOD_FORCE);
        desk.tick(1);
    }

    static void failGrip(RopewayDesk desk, int station) {
        desk.gauge(station, 1, 1);
        desk.tick(1);
    }

    static void toRope(RopewayDesk desk, int station, int cabin) {
        toClamping(desk, station, cabin);
        proveGrip(desk, station);
    }

    static RopewayDesk clamping(int station, int cabin) {
        RopewayDesk desk = new RopewayDesk();
        toClamping(desk, station, cabin);
        return desk;
    }

    static RopewayDesk onRope(int station, int cabin, int done) {
        RopewayDesk desk = new RopewayDesk();
        toRope(desk, station, cabin);
        pulses(desk, done);
        return desk;
    }

    /** It has just come to zone 1 of the station. */
    static RopewayDesk inZone1(int station, int cabin) {
        return onRope(1 - station, cabin, 5700);
    }

    /** Both left the station, 200 apart: one is in zone 1 ahead, the other behind it is held up. */
    static RopewayDesk heldUp(int station, int ahead, int behind) {
        RopewayDesk desk = onRope(station, ahead, 200);
        toRope(desk, station, behind);
        pulses(desk, 5700);
        return desk;
    }

    /** Both left the station, the one behind with 0 done; five more, 10 .. 14, are in zones there. */
    static RopewayDesk ninetyApart(int station, int ahead, int behind) {
        RopewayDesk desk = new RopewayDesk();
        toZone5(desk, station, ahead);
        desk.tick(15);
        toZone5(desk, station, behind);
        desk.tick(15);
        rowOf(desk, station, 10, 5);
        desk.tick(30);
        proveGrip(desk, station);
        desk.pulse(90);
        desk.tick(15);
        proveGrip(desk, station);
        return desk;
    }

    static RopewayDesk fullSiding() {
        RopewayDesk desk = new RopewayDesk();
        bringRow(desk, 0, 20);
        return desk;
    }

    /** The WIND is above 250, but no tick has locked. */
    static RopewayDesk windBeforeATick() {
        RopewayDesk desk = new RopewayDesk();
        desk.wind(251);
        return desk;
    }

    /** Some cabins everywhere: 10 is clamping with a report in station 0, 11 without one in 1. */
    static RopewayDesk busy() {
        RopewayDesk desk = new RopewayDesk();
        report(desk, 100, 120);
        desk.drive(3);
        toRope(desk, 0, 1);
        desk.pulse(300);
        toRope(desk, 1, 2);
        desk.pulse(250);
        bringRow(desk, 10, 5);
        desk.putOn(0, 10);
        desk.putOn(1, 11);
        desk.tick(60);
        toZone5(desk, 0, 3);
        desk.tick(60);
        toZone5(desk, 0, 59);
        toZone5(desk, 1, 0);
        desk.tick(7);
        desk.gauge(0, GOOD_FORCE, GOOD_FORCE);
        desk.pulse(123);
        return desk;
    }

    /** One lock alone stands, its cause being there; DRIVE is 3, and WAITING waits for its turn. */
    static RopewayDesk locked(int code) {
        RopewayDesk desk = code == BUMP ? heldUp(0, 1, 2) : new RopewayDesk();
        desk.drive(3);
        switch (code) {
            case GRIP -> {
                toClamping(desk, 1, 40);
                failGrip(desk, 1);
            }
            case FULL -> {
                toClamping(desk, 0, WAITING);
                bringRow(desk, 0, 20);
                failGrip(desk, 0);
                desk.release(GRIP);
            }
            case WIND -> {
                desk.wind(251);
                desk.tick(1);
            }
            default -> desk.pulse(1);
        }
        toClamping(desk, 0, WAITING);
        return desk;
    }

    /** GRIP, FULL, WIND and BUMP stand, their causes being there. */
    static RopewayDesk lockedFourTimes() {
        RopewayDesk desk = onRope(0, 1, 200);
        toRope(desk, 0, 2);
        desk.pulse(200);
        toClamping(desk, 0, WAITING);
        pulses(desk, 5500);
        bringRow(desk, 10, 20);
        desk.pulse(1);
        desk.wind(251);
        failGrip(desk, 0);
        return desk;
    }

    /** Takes away the cause of a lock of the two scenes above. */
    static void mend(RopewayDesk desk, int code) {
        switch (code) {
            case FULL -> desk.putOn(0, desk.sided(0));
            case WIND -> report(desk, 0, 0);
            case BUMP -> {
                desk.tick(15);
                desk.pulse(0);
            }
            default -> { }
        }
    }

    /**
     * All zones of station 0 are taken, by 0 .. 7 in zones 12 .. 5 and 20 .. 23 in zones 4 .. 1, and
     * LEFT_OVER has done 5,700; WIND stands, so that none of them goes on.
     */
    static RopewayDesk jam() {
        RopewayDesk desk = new RopewayDesk();
        for (int cabin = 20; cabin <= LEFT_OVER; cabin++) {
            toRope(desk, 1, cabin);
            desk.pulse(200);
        }
        desk.wind(251);
        desk.tick(1);
        rowOf(desk, 0, 0, 8);
        ticks(desk, TICKS_FROM_ZONE_5_TO_CLAMPING);
        pulses(desk, 4700);
        for (int zone = 4; zone >= 1; zone--) {
            ticks(desk, 15 * (zone - 1));
            desk.pulse(200);
        }
        return desk;
    }
}
