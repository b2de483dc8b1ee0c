/** Promise 2. */
public final class PulseTest {
    private static final Checks CHECKS = new Checks("PulseTest");

    public static void main(String[] args) {
        emptyRopeMoves();
        wrongInputsMoveNothing();
        cabinsMoveAndLetGo();
        for (int behind : new int[] {2, 0, 59}) {
            heldUpCabinStopsTheRope(behind);
        }
        bumpComesWithTheNextMoveOnly();
        firstOfAllTheyLetGo();
        oneHeldUpStopsTheOtherSideToo();
        CHECKS.end();
    }

    private static void emptyRopeMoves() {
        RopewayDesk desk = new RopewayDesk();
        CHECKS.due("pulse(0)", desk.pulse(0), 0);
        CHECKS.due("pulse(1)", desk.pulse(1), 1);
        CHECKS.due("pulse(600)", desk.pulse(600), 600);
        CHECKS.due("state(9)", desk.state(9), 601);
    }

    private static void wrongInputsMoveNothing() {
        RopewayDesk desk = new RopewayDesk();
        Scenes.toRope(desk, 0, 1);
        for (int n : new int[] {-1, 601, Integer.MIN_VALUE, Integer.MAX_VALUE}) {
            CHECKS.refused("pulse(" + n + ")", () -> desk.pulse(n));
        }
        CHECKS.due("where(1, 1) after wrong inputs", desk.where(1, 1), 0);
        CHECKS.due("state(9) after wrong inputs", desk.state(9), 0);
    }

    private static void cabinsMoveAndLetGo() {
        for (int station = 0; station < 2; station++) {
            RopewayDesk desk = new RopewayDesk();
            Scenes.toRope(desk, station, 9);
            CHECKS.due("moved", Scenes.pulses(desk, 5699), 5699);
            CHECKS.due("where(9, 0)", desk.where(9, 0), 3);
            CHECKS.due("where(9, 1)", desk.where(9, 1), 5699);
            CHECKS.due("where(9, 2)", desk.where(9, 2), station);
            CHECKS.due("pulse(3) past the end", desk.pulse(3), 3);
            CHECKS.due("where(9, 0)", desk.where(9, 0), 2);
            CHECKS.due("where(9, 1)", desk.where(9, 1), 1);
            CHECKS.due("where(9, 2)", desk.where(9, 2), 1 - station);
            CHECKS.due("where(9, 3)", desk.where(9, 3), 0);
            CHECKS.due("state(9)", desk.state(9), 5702);
            CHECKS.due("locks()", desk.locks(), 0);
        }
    }

    private static void heldUpCabinStopsTheRope(int behind) {
        RopewayDesk desk = new RopewayDesk();
        Scenes.toRope(desk, 0, 1);
        desk.pulse(200);
        Scenes.toRope(desk, 0, behind);
        Scenes.pulses(desk, 5400);
        CHECKS.due("pulse(600)", desk.pulse(600), 300);
        CHECKS.due("locks()", desk.locks(), 8);
        CHECKS.due("where(1, 1)", desk.where(1, 1), 1);
        CHECKS.due("where(" + behind + ", 1)", desk.where(behind, 1), 5700);
        CHECKS.due("where(" + behind + ", 0)", desk.where(behind, 0), 3);
        CHECKS.due("pulse(600)", desk.pulse(600), 0);
        CHECKS.due("state(9)", desk.state(9), 5900);
    }

    private static void bumpComesWithTheNextMoveOnly() {
        RopewayDesk desk = Scenes.heldUp(1, 2);
        CHECKS.due("where(2, 1)", desk.where(2, 1), 5700);
        CHECKS.due("locks() when it has just come", desk.locks(), 0);
        CHECKS.due("pulse(0)", desk.pulse(0), 0);
        CHECKS.due("locks() after pulse(0)", desk.locks(), 0);
        CHECKS.due("pulse(1)", desk.pulse(1), 0);
        CHECKS.due("locks() after pulse(1)", desk.locks(), 8);
    }

    private static void firstOfAllTheyLetGo() {
        RopewayDesk desk = Scenes.heldUp(1, 2);
        desk.pulse(1);
        desk.tick(15);
        CHECKS.due("where(1, 1)", desk.where(1, 1), 2);
        CHECKS.due("where(2, 0) before a pulse", desk.where(2, 0), 3);
        CHECKS.due("pulse(7) with BUMP standing", desk.pulse(7), 7);
        CHECKS.due("where(2, 0)", desk.where(2, 0), 2);
        CHECKS.due("where(2, 1)", desk.where(2, 1), 1);
        CHECKS.due("locks()", desk.locks(), 8);
    }

    private static void oneHeldUpStopsTheOtherSideToo() {
        RopewayDesk desk = new RopewayDesk();
        Scenes.toRope(desk, 0, 1);
        desk.pulse(200);
        Scenes.toRope(desk, 0, 2);
        Scenes.pulses(desk, 1000);
        Scenes.toRope(desk, 1, 3);
        CHECKS.due("moved", Scenes.pulses(desk, 4700), 4700);
        CHECKS.due("locks()", desk.locks(), 0);
        CHECKS.due("where(3, 1)", desk.where(3, 1), 4700);
        CHECKS.due("pulse(5)", desk.pulse(5), 0);
        CHECKS.due("where(3, 1) when held up", desk.where(3, 1), 4700);
        CHECKS.due("locks()", desk.locks(), 8);
    }
}
