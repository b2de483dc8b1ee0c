/** Promise 15. */
public final class SidedTest {
    public static void main(String[] args) {
        Checks checks = new Checks("SidedTest");
        RopewayDesk desk = new RopewayDesk();
        checks.due("sided(0)", desk.sided(0), -1);
        for (int i = 0; i < 20; i++) {
            desk.bring(59 - i);
        }
        for (int i = 0; i < 20; i++) {
            checks.due("sided(" + i + ")", desk.sided(i), 59 - i);
        }
        for (int place : new int[] {-1, 20, Integer.MIN_VALUE, Integer.MAX_VALUE}) {
            checks.due("sided(" + place + ")", desk.sided(place), -1);
        }
        desk.putOn(0, 59);
        desk.putOn(1, 40);
        checks.due("sided(0)", desk.sided(0), 58);
        checks.due("sided(17)", desk.sided(17), 41);
        checks.due("sided(18)", desk.sided(18), -1);
        desk.takeOff(0, 59);
        checks.due("sided(18)", desk.sided(18), 59);
        checks.due("sided(19)", desk.sided(19), -1);
        checks.end();
    }
}
