/** The example of README.md, with the answers that are written there. */
public final class ReadmeTest {
    public static void main(String[] args) {
        Checks checks = new Checks("ReadmeTest");
        RopewayDesk desk = new RopewayDesk();
        checks.yes("bring(7)", desk.bring(7));
        checks.where("after bring(7)", desk, 7, 1);
        checks.yes("putOn(0, 7)", desk.putOn(0, 7));
        checks.where("after putOn(0, 7)", desk, 7, 2, 5, 0);
        checks.yes("drive(3)", desk.drive(3));
        checks.due("tick(100)", desk.tick(100), 3);
        checks.due("tick(20)", desk.tick(20), 3);
        checks.where("now clamping", desk, 7, 2, 12, 0, 15, 0);
        checks.yes("gauge(0, 5000, 5100)", desk.gauge(0, 5000, 5100));
        checks.due("tick(1)", desk.tick(1), 3);
        checks.where("with the grip proved", desk, 7, 3, 0, 0);
        checks.due("pulse(600)", desk.pulse(600), 600);
        checks.due("where(7, 1)", desk.where(7, 1), 600);
        checks.end();
    }
}
