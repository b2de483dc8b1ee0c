/** Promise 12. */
public final class LocksTest {
    public static void main(String[] args) {
        Checks checks = new Checks("LocksTest");
        checks.sentence("LOCKS: 0 GRIP, 1 FULL, 2 WIND, 3 BUMP: each stands or does not; none at first.");
        checks.due("locks() with none", new RopewayDesk().locks(), 0);
        for (int code = 0; code < 4; code++) {
            checks.due("locks() with " + code, Scenes.locked(code).locks(), 1 << code);
        }
        checks.sentence("The locks that stand, as bits.");
        for (int released = 0; released < 16; released++) {
            RopewayDesk desk = Scenes.lockedFourTimes();
            checks.due("locks() with all", desk.locks(), 15);
            for (int code = 0; code < 4; code++) {
                Scenes.mend(desk, code);
            }
            for (int code = 0; code < 4; code++) {
                if ((released >> code & 1) == 1) {
                    checks.yes("release(" + code + ")", desk.release(code));
                }
            }
            checks.due("locks() without " + released, desk.locks(), 15 - released);
            checks.due("locks() again", desk.locks(), 15 - released);
        }
        checks.end();
    }
}
