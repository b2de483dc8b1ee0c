/** States of a desk that many tests begin with. */
final class Scenes {
    private static final int TICKS_FROM_ZONE_5_TO_CLAMPING = 120;

    private Scenes() {
    }

    static void ticks(RopewayDesk desk, int n) {
        for (int left = n; left > 0; left -= 100) {
            desk.tick(Math.min(left, 100));
        }
    }

    static int pulses(RopewayDesk desk, int n) {
        int moved = 0;
        for (int left = n; left > 0; left -= 600) {
            moved += desk.pulse(Math.min(left, 600));
        }
        return moved;
    }

    static void toZone5(RopewayDesk desk, int station, int cabin) {
        desk.bring(cabin);
        desk.putOn(station, cabin);
    }

    /** With no lock standing and nobody in the way, the cabin is clamping for 0 ticks then. */
    static void toClamping(RopewayDesk desk, int station, int cabin) {
        toZone5(desk, station, cabin);
        ticks(desk, TICKS_FROM_ZONE_5_TO_CLAMPING);
    }

    static void toRope(RopewayDesk desk, int station, int cabin) {
        toClamping(desk, station, cabin);
        desk.gauge(station, 9000, 9000);
        desk.tick(1);
    }

    /** Cabins first .. first + n - 1, 15 ticks apart; the last one is in zone 5 with AGE 0. */
    static void rowOf(RopewayDesk desk, int station, int first, int n) {
        for (int i = 0; i < n; i++) {
            if (i > 0) {
                desk.tick(15);
            }
            toZone5(desk, station, first + i);
        }
    }

    static void bringRow(RopewayDesk desk, int first, int n) {
        for (int i = 0; i < n; i++) {
            desk.bring(first + i);
        }
    }

    /** Both cabins left station 0, 200 apart; one is in zone 1 of station 1, the other held up. */
    static RopewayDesk heldUp(int ahead, int behind) {
        RopewayDesk desk = new RopewayDesk();
        toRope(desk, 0, ahead);
        desk.pulse(200);
        toRope(desk, 0, behind);
        pulses(desk, 5700);
        return desk;
    }

    static void report(RopewayDesk desk, int... speeds) {
        for (int speed : speeds) {
            desk.wind(speed);
        }
    }
}
