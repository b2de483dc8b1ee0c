/** Promise 9. */
public final class TakeOffTest {
    private static final Checks CHECKS = new Checks("TakeOffTest");

    public static void main(String[] args) {
        zones5To8();
        notFromZones1To4();
        onlyWhereItIs();
        onlyWithRoom();
        wrongInputs();
        CHECKS.end();
    }

    private static void zones5To8() {
        for (int station = 0; station < 2; station++) {
            for (int zone = 5; zone <= 12; zone++) {
                RopewayDesk desk = new RopewayDesk();
                Scenes.toZone5(desk, station, 1);
                desk.bring(2);
                Scenes.ticks(desk, 15 * (zone - 5) + 3);
                CHECKS.due("where(1, 1)", desk.where(1, 1), zone);
                CHECKS.due("takeOff of zone " + zone, desk.takeOff(station, 1) ? 1 : 0, zone <= 8 ? 1 : 0);
                CHECKS.due("where(1, 0)", desk.where(1, 0), zone <= 8 ? 1 : 2);
                CHECKS.due("where(1, 1)", desk.where(1, 1), zone <= 8 ? 1 : zone);
                CHECKS.due("where(1, 2)", desk.where(1, 2), zone <= 8 ? -1 : station);
                CHECKS.due("where(1, 3)", desk.where(1, 3), zone <= 8 ? -1 : 3);
                CHECKS.due("where(1, 5)", desk.where(1, 5), 0);
                CHECKS.due("state(6)", desk.state(6), zone <= 8 ? 0 : 1);
                CHECKS.yes("putOn into the zones", desk.putOn(station, 2));
            }
        }
    }

    private static void notFromZones1To4() {
        RopewayDesk desk = new RopewayDesk();
        Scenes.toRope(desk, 1, 1);
        Scenes.pulses(desk, 5700);
        for (int zone = 1; zone <= 4; zone++) {
            CHECKS.due("where(1, 1)", desk.where(1, 1), zone);
            CHECKS.no("takeOff of zone " + zone, desk.takeOff(0, 1));
            desk.tick(15);
        }
        CHECKS.yes("takeOff of zone 5", desk.takeOff(0, 1));
    }

    private static void onlyWhereItIs() {
        RopewayDesk desk = new RopewayDesk();
        CHECKS.no("takeOff of one that is away", desk.takeOff(0, 1));
        desk.bring(1);
        CHECKS.no("takeOff of one in the siding", desk.takeOff(0, 1));
        desk.putOn(0, 1);
        CHECKS.no("takeOff of the other station", desk.takeOff(1, 1));
        CHECKS.due("where(1, 0)", desk.where(1, 0), 2);
        Scenes.ticks(desk, 120);
        desk.gauge(0, 9000, 9000);
        desk.tick(1);
        CHECKS.no("takeOff of one on the rope", desk.takeOff(0, 1));
        desk.pulse(7);
        CHECKS.no("takeOff of one that has done 7", desk.takeOff(0, 1));
    }

    private static void onlyWithRoom() {
        RopewayDesk desk = new RopewayDesk();
        Scenes.toZone5(desk, 0, 50);
        Scenes.bringRow(desk, 0, 20);
        CHECKS.no("takeOff without room", desk.takeOff(0, 50));
        CHECKS.due("where(50, 1)", desk.where(50, 1), 5);
        CHECKS.due("locks()", desk.locks(), 0);
        desk.putOn(1, 0);
        CHECKS.yes("takeOff with room", desk.takeOff(0, 50));
        CHECKS.due("sided(19)", desk.sided(19), 50);
    }

    private static void wrongInputs() {
        RopewayDesk desk = new RopewayDesk();
        Scenes.toZone5(desk, 0, 1);
        CHECKS.refused("takeOff(-1, 1)", () -> desk.takeOff(-1, 1));
        CHECKS.refused("takeOff(2, 1)", () -> desk.takeOff(2, 1));
        CHECKS.refused("takeOff(0, -1)", () -> desk.takeOff(0, -1));
        CHECKS.refused("takeOff(0, 60)", () -> desk.takeOff(0, 60));
        CHECKS.due("where(1, 0) after wrong inputs", desk.where(1, 0), 2);
    }
}
