/** Promise 11. */
public final class CountTest {
    public static void main(String[] args) {
        Check check = new Check();
        checkAlongARun(check);
        checkNoSuchWhat(check);
        checkActCallsThatThrew(check);
        checkInstalledPolicy(check);
        checkDoneAndReplaced(check);
        check.end();
    }

    private static void checkAlongARun(Check check) {
        PolicyMonitor x = new PolicyMonitor();
        x.act(0, 1);
        counts(check, x, 0, 0, 1, 0, 0, 0, -1);
        x.policy(Kinds.PRELUDE, 1, 1, 5);
        x.policy(Kinds.ANSWER, 2, 9, 0);
        x.policy(Kinds.BOTH, 0, 1, 0);
        x.policy(Kinds.FORBID, 4, 0, 0);
        x.policy(Kinds.BOTH, 2, 3, 0);
        x.policy(Kinds.STOP, 8, 0, 0);
        x.policy(Kinds.BOTH, 4, 5, 0);
        x.policy(Kinds.AUDIT, 6, 0, 0);
        check.refused("a policy that is not made", () -> x.policy(Kinds.ALLOW, 256, 0, 0));
        counts(check, x, 8, 0, 1, 0, 0, 0, -1);
        x.install(7);
        counts(check, x, 8, 0, 1, 0, 0, 0, 7);
        x.act(0, 1);
        counts(check, x, 8, 2, 2, 1, 0, 0, 7);
        x.act(1, 1);
        counts(check, x, 8, 3, 2, 2, 0, 0, 7);
        check.forbidden("act(2, 1)", () -> x.act(2, 1));
        counts(check, x, 8, 4, 2, 2, 1, 0, 7);
        check.refused("act(8, 1)", () -> x.act(8, 1));
        check.refused("act(-1, 1)", () -> x.act(-1, 1));
        check.refused("ask(8, 1)", () -> x.ask(8, 1));
        check.forbidden("detail(2, 1, 0)", () -> x.detail(2, 1, 0));
        counts(check, x, 8, 4, 2, 2, 1, 0, 7);
        check.stopped("act(3, 1)", () -> x.act(3, 1));
        counts(check, x, 8, 5, 2, 2, 2, 1, 7);
        check.stopped("act(0, 1)", () -> x.act(0, 1));
        check.refused("act(8, 1)", () -> x.act(8, 1));
        counts(check, x, 8, 5, 2, 2, 3, 1, 7);
        x.install(3);
        counts(check, x, 8, 5, 2, 2, 3, 0, 3);
    }

    /** 'Else -1.' */
    private static void checkNoSuchWhat(Check check) {
        PolicyMonitor x = new PolicyMonitor();
        int[] none = {Integer.MIN_VALUE, -2, -1, 7, 8, Integer.MAX_VALUE};
        for (int round = 0; round < 2; round++) {
            for (int what : none) {
                check.gives("count(" + what + ")", () -> x.count(what), -1);
            }
            x.policy(Kinds.ALLOW, 1, 0, 0);
            x.install(0);
            x.act(0, 1);
        }
    }

    /** 'act calls that threw (but for IllegalArgumentException)', and no other calls that threw. */
    private static void checkActCallsThatThrew(Check check) {
        PolicyMonitor x = new PolicyMonitor();
        x.policy(Kinds.FORBID, 1, 0, 0);
        x.policy(Kinds.STOP, 2, 0, 0);
        int[] parts = new int[5];
        for (int i = 0; i < 5; i++) {
            parts[i] = x.policy(Kinds.PRELUDE, 4, 2, 1);
        }
        int deep = Kinds.join(x, Kinds.FIRST, parts);
        int top = Kinds.join(x, Kinds.FIRST, new int[] {0, 1, deep});
        x.install(top);
        check.refused("table", () -> x.table(3, 0, 0, 0));
        check.refused("policy", () -> x.policy(15, 0, 0, 0));
        check.forbidden("policy", () -> x.policy(Kinds.AUDIT, 0, 0, 0));
        check.refused("install", () -> x.install(40));
        check.refused("act", () -> x.act(8, 0));
        check.refused("ask", () -> x.ask(8, 0));
        check.refused("detail", () -> x.detail(8, 0, 0));
        check.forbidden("detail", () -> x.detail(0, 0, 0));
        check.refused("total", () -> x.total(8));
        check.is("count(4) at first", x.count(4), 0);
        check.forbidden("act(0, 0)", () -> x.act(0, 0));
        check.is("count(4) after FORBIDDEN", x.count(4), 1);
        check.tooDeep("act(2, 0)", () -> x.act(2, 0));
        check.is("count(4) after TOO DEEP, once for the whole call", x.count(4), 2);
        x.act(3, 0);
        check.is("count(4) after an answer", x.count(4), 2);
        check.stopped("act(1, 0)", () -> x.act(1, 0));
        check.is("count(4) after STOPPED now", x.count(4), 3);
        check.stopped("act(3, 0)", () -> x.act(3, 0));
        check.is("count(4) after STOPPED earlier", x.count(4), 4);
        check.refused("act", () -> x.act(-1, 0));
        check.is("count(4) after no such sort", x.count(4), 4);
    }

    /** 'the installed POLICY, -1 without one'. */
    private static void checkInstalledPolicy(Check check) {
        PolicyMonitor x = new PolicyMonitor();
        check.is("count(6) without POLICIES", x.count(6), -1);
        for (int i = 0; i < 40; i++) {
            x.policy(Kinds.STOP, 1, 0, 0);
        }
        check.is("count(6) without an installed one", x.count(6), -1);
        int[] numbers = {39, 0, 20, 20};
        for (int number : numbers) {
            x.install(number);
            check.is("count(6)", x.count(6), number);
            check.refused("install(40)", () -> x.install(40));
            check.is("count(6) after a refused install", x.count(6), number);
            check.stopped("act(0, 0)", () -> x.act(0, 0));
            check.is("count(6) when stopped", x.count(6), number);
        }
    }

    /** ACTIONS that were put before others are DONE and REPLACED as those are, and stay counted when the act throws. */
    private static void checkDoneAndReplaced(Check check) {
        PolicyMonitor x = new PolicyMonitor();
        x.policy(Kinds.PRELUDE, 1, 1, 5);
        x.policy(Kinds.PRELUDE, 1, 2, 5);
        x.policy(Kinds.ANSWER, 4, 9, 0);
        x.policy(Kinds.FORBID, 1, 0, 0);
        x.install(Kinds.join(x, Kinds.FIRST, new int[] {0, 1, 2, 3}));
        for (int round = 1; round <= 3; round++) {
            check.forbidden("act(0, 1)", () -> x.act(0, 1));
            counts(check, x, 7, 0, round, round, round, 0, 6);
        }
    }

    private static void counts(Check check, PolicyMonitor x, int... due) {
        for (int what = 0; what < due.length; what++) {
            check.is("count(" + what + ")", x.count(what), due[what]);
        }
    }
}
