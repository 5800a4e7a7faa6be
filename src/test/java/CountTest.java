/** Promise 11. */
public final class CountTest {
    public static void main(String[] args) {
        Check check = new Check();
        PolicyMonitor x = new PolicyMonitor();
        x.act(0, 1);
        counts(check, x, 0, 0, 1, 0, 0, 0, -1);
        x.policy(Kinds.PRELUDE, 1, 1, 5);
        x.policy(Kinds.ANSWER, 2, 9, 0);
        x.policy(Kinds.BOTH, 0, 1, 0);
        x.policy(Kinds.FORBID, 4, 0, 0);
        x.policy(Kinds.BOTH, 2, 3, 0);
        x.policy(Kinds.STOP, 8, 0, 0);
        x.policy(Kinds.BOTH, 4, 5, 0);
        x.policy(Kinds.AUDIT, 6, 0, 0);
        check.refused("a policy that is not made", () -> x.policy(Kinds.ALLOW, 256, 0, 0));
        counts(check, x, 8, 0, 1, 0, 0, 0, -1);
        x.install(7);
        counts(check, x, 8, 0, 1, 0, 0, 0, 7);
        x.act(0, 1);
        counts(check, x, 8, 2, 2, 1, 0, 0, 7);
        x.act(1, 1);
        counts(check, x, 8, 3, 2, 2, 0, 0, 7);
        check.forbidden("act(2, 1)", () -> x.act(2, 1));
        counts(check, x, 8, 4, 2, 2, 1, 0, 7);
        check.refused("act(8, 1)", () -> x.act(8, 1));
        check.refused("act(-1, 1)", () -> x.act(-1, 1));
        check.refused("ask(8, 1)", () -> x.ask(8, 1));
        check.forbidden("detail(2, 1, 0)", () -> x.detail(2, 1, 0));
        counts(check, x, 8, 4, 2, 2, 1, 0, 7);
        check.stopped("act(3, 1)", () -> x.act(3, 1));
        counts(check, x, 8, 5, 2, 2, 2, 1, 7);
        check.stopped("act(0, 1)", () -> x.act(0, 1));
        check.refused("act(8, 1)", () -> x.act(8, 1));
        counts(check, x, 8, 5, 2, 2, 3, 1, 7);
        x.install(3);
        counts(check, x, 8, 5, 2, 2, 3, 0, 3);
        int[] none = {Integer.MIN_VALUE, -1, 7, 8, Integer.MAX_VALUE};
        for (int what : none) {
            check.gives("count(" + what + ")", () -> x.count(what), -1);
        }
        check.end();
    }

    private static void counts(Check check, PolicyMonitor x, int... due) {
        for (int what = 0; what < due.length; what++) {
            check.is("count(" + what + ")", x.count(what), due[what]);
        }
    }
}
