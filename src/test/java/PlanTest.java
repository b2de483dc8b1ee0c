/** Promise 10. */
public final class PlanTest {
    private static final Checks CHECKS = new Checks("PlanTest");
    private static final Refusals REFUSALS = new Refusals(CHECKS);

    public static void main(String[] args) {
        CHECKS.sentence("IllegalArgumentException: it is not 1 .. 900.");
        REFUSALS.beyond("plan", 1, 900, RopewayDesk::plan);
        REFUSALS.byException("plan of -1", Scenes::busy, desk -> desk.plan(-1));
        CHECKS.sentence("PLANNED is the least n with 15 n at least so many cabins an hour: n.");
        for (int from = 1; from <= 900; from += 200) {
            RopewayDesk desk = new RopewayDesk();
            for (int perHour = from; perHour < from + 200 && perHour <= 900; perHour++) {
                CHECKS.due("plan(" + perHour + ")", desk.plan(perHour), leastFor(perHour));
                CHECKS.due("state(2)", desk.state(2), leastFor(perHour));
            }
        }
        for (int code = 0; code < 4; code++) {
            RopewayDesk desk = Scenes.locked(code);
            CHECKS.due("plan(46) with lock " + code, desk.plan(46), 4);
            CHECKS.due("state(2) with lock " + code, desk.state(2), 4);
        }
        CHECKS.end();
    }

    private static int leastFor(int perHour) {
        int n = 0;
        while (15 * n < perHour) {
            n++;
        }
        return n;
    }
}
