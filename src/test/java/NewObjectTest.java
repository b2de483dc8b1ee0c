/** Promise 1. */
public final class NewObjectTest {
    private static final int[] CABIN_AT_FIRST = {0, -1, -1, -1, -1, 0, 0, 0};
    private static final int[] STATE_AT_FIRST = {0, 0, 60, 0, 0, 0, 0, 0, 0, 0};

    public static void main(String[] args) {
        Checks checks = new Checks("NewObjectTest");
        for (int what = 0; what < CABIN_AT_FIRST.length; what++) {
            RopewayDesk desk = new RopewayDesk();
            for (int cabin = 0; cabin < 60; cabin++) {
                checks.due("where(" + cabin + ", " + what + ")", desk.where(cabin, what), CABIN_AT_FIRST[what]);
                checks.due("gap(" + cabin + ")", desk.gap(cabin), -1);
            }
        }
        RopewayDesk desk = new RopewayDesk();
        for (int what = 0; what < STATE_AT_FIRST.length; what++) {
            checks.due("state(" + what + ")", desk.state(what), STATE_AT_FIRST[what]);
        }
        checks.due("locks()", desk.locks(), 0);
        checks.due("sided(0)", desk.sided(0), -1);

        RopewayDesk other = new RopewayDesk();
        other.bring(3);
        other.drive(4);
        other.tick(2);
        checks.due("where(3, 0) of another object", desk.where(3, 0), 0);
        checks.due("state(0) of another object", desk.state(0), 0);
        checks.end();
    }
}
