/** 'An object is used for at most 512 calls': up to the last of these the promises hold. */
public final class LastCallTest {
    private static final int MOST_CALLS = 512;

    public static void main(String[] args) {
        Check check = new Check();
        checkDone(check);
        checkNotesAndInserts(check);
        checkThrown(check);
        checkReplaced(check);
        checkQuota(check);
        check.end();
    }

    private static void checkDone(Check check) {
        PolicyMonitor x = new PolicyMonitor();
        for (int call = 1; call < MOST_CALLS; call++) {
            check.is("act " + call, x.act(3, 2), 2 * call);
        }
        check.is("count(2), the 512th call", x.count(2), MOST_CALLS - 1);
    }

    /** Each act asks thirteen PRELUDES and their INSERTS, so that it notes and does a lot. */
    private static void checkNotesAndInserts(Check check) {
        PolicyMonitor x = new PolicyMonitor();
        int[] preludes = new int[13];
        for (int i = 0; i < preludes.length; i++) {
            preludes[i] = x.policy(Kinds.PRELUDE, 1, 1, 1);
        }
        int top = x.policy(Kinds.AUDIT, Kinds.join(x, Kinds.BOTH, preludes), 0, 0);
        x.install(top);
        int made = top + 2;
        int acts = MOST_CALLS - made - 6;
        for (int i = 1; i <= acts; i++) {
            check.is("act " + i, x.act(0, 1), i);
        }
        check.is("total(1)", x.total(1), 13 * acts);
        check.is("count(1)", x.count(1), 13 * acts);
        check.is("count(2)", x.count(2), 14 * acts);
        check.is("noted(0)", x.noted(0), 16 * Kinds.INSERT);
        check.is("noted(15)", x.noted(15), 16 * Kinds.INSERT);
        check.is("ask(0, 1), the 512th call", x.ask(0, 1), Kinds.INSERT);
    }

    private static void checkThrown(Check check) {
        int[] throwing = {Kinds.FORBID, Kinds.STOP};
        for (int kind : throwing) {
            PolicyMonitor x = new PolicyMonitor();
            x.policy(kind, 1, 0, 0);
            x.install(0);
            int acts = MOST_CALLS - 3;
            for (int i = 0; i < acts; i++) {
                check.fails("act " + i, kind == Kinds.STOP ? UnsupportedOperationException.class
                        : IllegalStateException.class, () -> x.act(0, 1));
            }
            check.is("count(4), the 512th call", x.count(4), acts);
        }
    }

    private static void checkReplaced(Check check) {
        PolicyMonitor x = new PolicyMonitor();
        x.policy(Kinds.ANSWER, 1, -1, 0);
        x.install(0);
        int acts = MOST_CALLS - 3;
        for (int i = 0; i < acts; i++) {
            check.is("act " + i, x.act(0, 1), -1);
        }
        check.is("count(3), the 512th call", x.count(3), acts);
    }

    private static void checkQuota(Check check) {
        PolicyMonitor x = new PolicyMonitor();
        x.policy(Kinds.QUOTA, 1, 99, 0);
        x.policy(Kinds.TURN, 0, Kinds.EXCEPTION, Kinds.OK);
        x.install(1);
        int acts = MOST_CALLS - 4;
        for (int i = 1; i <= acts; i++) {
            check.is("act " + i, x.act(0, 1), i);
        }
        check.is("state(0), the 512th call", x.state(0), acts);
    }
}
