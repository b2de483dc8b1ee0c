/** Promise 10. */
public final class PlanTest {
    private static final Checks CHECKS = new Checks("PlanTest");

    public static void main(String[] args) {
        for (int from = 1; from <= 900; from += 200) {
            RopewayDesk desk = new RopewayDesk();
            for (int perHour = from; perHour < from + 200 && perHour <= 900; perHour++) {
                CHECKS.due("plan(" + perHour + ")", desk.plan(perHour), leastFor(perHour));
                CHECKS.due("state(2)", desk.state(2), leastFor(perHour));
            }
        }
        RopewayDesk desk = new RopewayDesk();
        desk.plan(31);
        for (int perHour : new int[] {0, -1, 901, Integer.MIN_VALUE, Integer.MAX_VALUE}) {
            CHECKS.refused("plan(" + perHour + ")", () -> desk.plan(perHour));
        }
        CHECKS.due("state(2) after wrong inputs", desk.state(2), 3);
        CHECKS.end();
    }

    private static int leastFor(int perHour) {
        int n = 0;
        while (15 * n < perHour) {
            n++;
        }
        return n;
    }
}
