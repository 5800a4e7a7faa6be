/** Promise 1. */
public final class NewObjectTest {
    public static void main(String[] args) {
        Check check = new Check();
        checkCounts(check);
        checkNoPolicies(check);
        checkEntries(check);
        checkTablesBehindAutomata(check);
        checkTotals(check);
        checkWithoutInstalledPolicy(check);
        checkThatObjectsAreApart(check);
        check.end();
    }

    private static void checkCounts(Check check) {
        PolicyMonitor x = new PolicyMonitor();
        int[] counts = {0, 0, 0, 0, 0, 0, -1};
        for (int what = 0; what < counts.length; what++) {
            check.is("count(" + what + ")", x.count(what), counts[what]);
        }
        for (int k = 0; k <= 16; k++) {
            check.is("noted(" + k + ")", x.noted(k), -1);
        }
    }

    /** 'No POLICIES'. */
    private static void checkNoPolicies(Check check) {
        PolicyMonitor x = new PolicyMonitor();
        for (int number = 0; number <= 40; number++) {
            check.is("state(" + number + ")", x.state(number), -1);
        }
        check.refused("install(0)", () -> x.install(0));
        check.refused("policy(AUDIT, 0, 0, 0)", () -> x.policy(Kinds.AUDIT, 0, 0, 0));
        check.refused("policy(BOTH, 0, 1, 0)", () -> x.policy(Kinds.BOTH, 0, 1, 0));
        check.refused("policy(ONLY, 0, 0, 0)", () -> x.policy(Kinds.ONLY, 0, 0, 0));
        check.gives("the first POLICY", () -> x.policy(Kinds.ALLOW, 1, 0, 0), 0);
    }

    /** 'tables with all entries 5'. */
    private static void checkEntries(Check check) {
        PolicyMonitor x = new PolicyMonitor();
        for (int k = 0; k < 3; k++) {
            for (int state = 0; state < 4; state++) {
                for (int sort = 0; sort < 8; sort++) {
                    check.is("an entry", x.table(k, state, sort, 0), 5);
                }
            }
        }
    }

    private static void checkTablesBehindAutomata(Check check) {
        PolicyMonitor x = new PolicyMonitor();
        for (int k = 0; k < 3; k++) {
            x.policy(Kinds.AUTOMATON, k, 0, 0);
            x.install(k);
            for (int sort = 0; sort < 8; sort++) {
                check.is("ask(" + sort + ", 1) of AUTOMATON " + k, x.ask(sort, 1), Kinds.IRRELEVANT);
                x.act(sort, 1);
                check.is("its STATE", x.state(k), 0);
            }
        }
    }

    /** 'TOTALS 0'. */
    private static void checkTotals(Check check) {
        PolicyMonitor x = new PolicyMonitor();
        for (int sort = 0; sort < 8; sort++) {
            check.is("total(" + sort + ")", x.total(sort), 0);
        }
    }

    /** 'Without an installed POLICY every ACTION is DONE', whatever POLICIES there are. */
    private static void checkWithoutInstalledPolicy(Check check) {
        PolicyMonitor x = new PolicyMonitor();
        for (int made = 0; made < 2; made++) {
            for (int sort = 0; sort < 8; sort++) {
                int s = sort;
                check.is("ask(" + sort + ", 1)", x.ask(sort, 1), 0);
                check.gives("act(" + sort + ", 3)", () -> x.act(s, 3), 3 + 3 * made);
                check.is("total(" + sort + ")", x.total(sort), 3 + 3 * made);
            }
            check.is("count(2)", x.count(2), 8 + 8 * made);
            if (made == 0) {
                makeAllKindsThatMeddle(x);
            }
        }
        check.is("nothing is noted", x.count(1), 0);
        check.is("nothing is REPLACED", x.count(3), 0);
        check.is("nothing threw", x.count(4), 0);
        check.is("nothing is ACCEPTED", x.state(0), 0);
    }

    private static void makeAllKindsThatMeddle(PolicyMonitor x) {
        x.policy(Kinds.QUOTA, Kinds.ALL, 1, 0);
        x.policy(Kinds.FORBID, Kinds.ALL, 0, 0);
        x.policy(Kinds.STOP, Kinds.ALL, 0, 0);
        x.policy(Kinds.ANSWER, Kinds.ALL, 99, 0);
        x.policy(Kinds.PRELUDE, Kinds.ALL, 1, 1);
        x.policy(Kinds.RANGE, Kinds.ALL, 1, 0);
        x.policy(Kinds.AUDIT, 1, 0, 0);
    }

    private static void checkThatObjectsAreApart(Check check) {
        PolicyMonitor x = new PolicyMonitor();
        PolicyMonitor y = new PolicyMonitor();
        x.table(0, 0, 0, 1);
        x.policy(Kinds.ALLOW, 1, 0, 0);
        x.policy(Kinds.AUDIT, 0, 0, 0);
        x.install(1);
        x.act(0, 4);
        check.is("the other's table", y.table(0, 0, 0, 5), 5);
        check.is("the other's count(0)", y.count(0), 0);
        check.is("the other's count(6)", y.count(6), -1);
        check.is("the other's total(0)", y.total(0), 0);
        check.is("the other's noted(0)", y.noted(0), -1);
    }
}
