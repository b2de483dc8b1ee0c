/** Promise 7. */
public final class BringTest {
    private static final Checks CHECKS = new Checks("BringTest");
    private static final Refusals REFUSALS = new Refusals(CHECKS);

    public static void main(String[] args) {
        wrongInputs();
        comesToTheEnd();
        everyCabin();
        notAway();
        noRoom();
        CHECKS.end();
    }

    private static void wrongInputs() {
        CHECKS.sentence("IllegalArgumentException: no such cabin.");
        REFUSALS.beyond("bring", 0, 59, RopewayDesk::bring);
        for (int cabin : Refusals.outside(0, 59)) {
            REFUSALS.byException("bring of " + cabin + " without room", Scenes::fullSiding, desk -> desk.bring(cabin));
        }
    }

    private static void comesToTheEnd() {
        CHECKS.sentence("A cabin that is away comes to the end of the siding: true");
        RopewayDesk desk = new RopewayDesk();
        int[] cabins = {59, 0, 30};
        for (int i = 0; i < cabins.length; i++) {
            CHECKS.yes("bring", desk.bring(cabins[i]));
            CHECKS.where("in the siding", desk, cabins[i], 1, i, -1, -1, -1, 0, 0, 0);
            CHECKS.due("state(4)", desk.state(4), i + 1);
        }
        for (int i = 0; i < cabins.length; i++) {
            CHECKS.due("sided(" + i + ")", desk.sided(i), cabins[i]);
        }
    }

    private static void everyCabin() {
        CHECKS.sentence("CABINS 0 .. 59: each is AWAY, in the SIDING (a row of at most 20)");
        for (int first = 0; first < 60; first += 20) {
            RopewayDesk desk = new RopewayDesk();
            for (int i = 0; i < 20; i++) {
                CHECKS.yes("bring(" + (first + i) + ")", desk.bring(first + i));
                CHECKS.due("sided(" + i + ")", desk.sided(i), first + i);
            }
            CHECKS.due("state(4)", desk.state(4), 20);
        }
    }

    private static void notAway() {
        CHECKS.sentence("false when it is not away, or there is no room.");
        REFUSALS.byFalse("bring of one in the siding", Scenes::busy, desk -> desk.bring(12));
        REFUSALS.byFalse("bring of one in zone 5", Scenes::busy, desk -> desk.bring(59));
        REFUSALS.byFalse("bring of one in zone 12", Scenes::busy, desk -> desk.bring(11));
        REFUSALS.byFalse("bring of one on the rope", Scenes::busy, desk -> desk.bring(1));
        REFUSALS.byFalse("bring of one with 0 done", () -> Scenes.onRope(1, 5, 0), desk -> desk.bring(5));
        REFUSALS.byFalse("bring of one with 5,700 done", () -> Scenes.heldUp(0, 1, 2), desk -> desk.bring(2));
        REFUSALS.byFalse("bring of one in zone 1", () -> Scenes.inZone1(0, 5), desk -> desk.bring(5));
    }

    private static void noRoom() {
        CHECKS.sentence("false when it is not away, or there is no room.");
        REFUSALS.byFalse("bring without room", Scenes::fullSiding, desk -> desk.bring(59));
        REFUSALS.byFalse("bring of the last one there", Scenes::fullSiding, desk -> desk.bring(19));
        RopewayDesk desk = new RopewayDesk();
        Scenes.bringRow(desk, 0, 19);
        CHECKS.yes("bring with nineteen in the siding", desk.bring(19));
        CHECKS.no("bring with twenty in the siding", desk.bring(20));
        CHECKS.due("locks() without room", desk.locks(), 0);
        desk.putOn(0, 0);
        CHECKS.yes("bring when there is room again", desk.bring(20));
        CHECKS.due("sided(19)", desk.sided(19), 20);
        CHECKS.due("sided(0)", desk.sided(0), 1);
    }
}
