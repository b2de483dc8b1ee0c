/** Promise 15. */
public final class SidedTest {
    private static final Checks CHECKS = new Checks("SidedTest");
    private static final Refusals REFUSALS = new Refusals(CHECKS);

    public static void main(String[] args) {
        CHECKS.sentence("The cabin at a place of the siding; -1 when there is none.");
        for (int n : new int[] {0, 1, 2, 19, 20}) {
            RopewayDesk desk = new RopewayDesk();
            for (int i = 0; i < n; i++) {
                desk.bring(59 - i);
            }
            for (int place = -2; place <= 22; place++) {
                int due = place >= 0 && place < n ? 59 - place : -1;
                CHECKS.due("sided(" + place + ") of " + n, desk.sided(place), due);
            }
        }
        for (int place : Refusals.outside(0, 19)) {
            REFUSALS.byMinusOne("sided(" + place + ")", Scenes::fullSiding, desk -> desk.sided(place));
            REFUSALS.byMinusOne("sided(" + place + ")", RopewayDesk::new, desk -> desk.sided(place));
        }
        REFUSALS.byMinusOne("sided(3) of 3", Scenes::busy, desk -> desk.sided(3));
        comesAndGoes();
        CHECKS.end();
    }

    private static void comesAndGoes() {
        RopewayDesk desk = Scenes.fullSiding();
        desk.putOn(0, 0);
        desk.putOn(1, 19);
        CHECKS.due("sided(0)", desk.sided(0), 1);
        CHECKS.due("sided(17)", desk.sided(17), 18);
        CHECKS.due("sided(18)", desk.sided(18), -1);
        desk.takeOff(0, 0);
        CHECKS.due("sided(18)", desk.sided(18), 0);
        CHECKS.due("sided(19)", desk.sided(19), -1);
        desk.takeOff(1, 19);
        CHECKS.due("sided(19)", desk.sided(19), 19);
        CHECKS.due("sided(20)", desk.sided(20), -1);
    }
}
