/** Promise 6. */
public final class AskTest {
    public static void main(String[] args) {
        Check check = new Check();
        PolicyMonitor x = new PolicyMonitor();
        int[] wrong = {Integer.MIN_VALUE, -1, 8, Integer.MAX_VALUE};
        for (int sort : wrong) {
            check.refused("ask(" + sort + ", 0)", () -> x.ask(sort, 0));
        }
        x.policy(Kinds.FORBID, Kinds.ALL, 0, 0);
        check.gives("ask(0, 0), none installed", () -> x.ask(0, 0), 0);
        for (int kind = 0; kind <= 5; kind++) {
            PolicyMonitor y = new PolicyMonitor();
            Kinds.suggesting(y, kind, 1, 0);
            y.install(0);
            check.is("ask", y.ask(0, 0), kind);
        }
        x.install(0);
        for (int sort : wrong) {
            check.refused("ask(" + sort + ", 0)", () -> x.ask(sort, 0));
        }
        checkNothingChanges(check);
        checkNothingIsSpent(check);
        checkBeforeAndAfterInstall(check);
        check.end();
    }

    /** A PRELUDE that was asked is as ready for the next act as before. */
    private static void checkNothingIsSpent(Check check) {
        PolicyMonitor x = new PolicyMonitor();
        x.policy(Kinds.PRELUDE, 1, 1, 5);
        x.install(0);
        for (int round = 1; round <= 2; round++) {
            check.is("ask(0, 0)", x.ask(0, 0), Kinds.INSERT);
            check.is("ask(0, 0) again", x.ask(0, 0), Kinds.INSERT);
            x.act(0, 1);
            check.is("total(1)", x.total(1), 5 * round);
        }
    }

    /** '0 without an installed POLICY': for every sort, also when there are POLICIES. */
    private static void checkBeforeAndAfterInstall(Check check) {
        PolicyMonitor x = new PolicyMonitor();
        for (int kind = 1; kind <= 5; kind++) {
            Kinds.suggesting(x, kind, Kinds.ALL, 1);
            for (int sort = 0; sort < 8; sort++) {
                check.is("ask(" + sort + ", 0), none installed", x.ask(sort, 0), 0);
            }
        }
        for (int number = 0; number < 5; number++) {
            x.install(number);
            for (int sort = 0; sort < 8; sort++) {
                check.is("ask(" + sort + ", 0)", x.ask(sort, 0), number + 1);
            }
        }
        check.is("a HALT that is only asked for does not stop", x.count(5), 0);
    }

    /** 'without noting or changing anything'. */
    private static void checkNothingChanges(Check check) {
        for (int kind = 1; kind <= 5; kind++) {
            PolicyMonitor x = new PolicyMonitor();
            x.policy(Kinds.QUOTA, 1, 9, 0);
            Kinds.suggesting(x, kind, 1, 7);
            x.policy(Kinds.BOTH, 0, 1, 0);
            x.policy(Kinds.AUDIT, 2, 0, 0);
            x.install(3);
            for (int i = 0; i < 3; i++) {
                check.is("ask", x.ask(0, 4), kind);
            }
            check.is("state(0)", x.state(0), 0);
            check.is("noted(0)", x.noted(0), -1);
            int[] counts = {4, 0, 0, 0, 0, 0, 3};
            for (int what = 0; what < counts.length; what++) {
                check.is("count(" + what + ") after ask " + kind, x.count(what), counts[what]);
            }
            check.is("total(0)", x.total(0), 0);
        }
    }
}
