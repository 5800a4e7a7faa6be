/** Promise 2. */
public final class TableTest {
    public static void main(String[] args) {
        Check check = new Check();
        checkEveryEntryIsItsOwn(check);
        checkRanges(check);
        checkChangeUnderAnAutomaton(check);
        check.end();
    }

    private static int mark(int k, int state, int sort) {
        return (k * 5 + state * 3 + sort) % 6;
    }

    private static void checkEveryEntryIsItsOwn(Check check) {
        PolicyMonitor x = new PolicyMonitor();
        for (int round = 0; round < 2; round++) {
            for (int k = 0; k < 3; k++) {
                for (int state = 0; state < 4; state++) {
                    for (int sort = 0; sort < 8; sort++) {
                        int next = mark(k, state, sort);
                        String call = "table(" + k + ", " + state + ", " + sort + ", " + next + ")";
                        check.is(call, x.table(k, state, sort, next), round == 0 ? 5 : next);
                    }
                }
            }
        }
    }

    private static void checkRanges(Check check) {
        PolicyMonitor x = new PolicyMonitor();
        int[] wrong = {Integer.MIN_VALUE, -1, Integer.MAX_VALUE};
        for (int number : wrong) {
            check.refused("table(" + number + ", 0, 0, 0)", () -> x.table(number, 0, 0, 0));
            check.refused("table(0, " + number + ", 0, 0)", () -> x.table(0, number, 0, 0));
            check.refused("table(0, 0, " + number + ", 0)", () -> x.table(0, 0, number, 0));
            check.refused("table(0, 0, 0, " + number + ")", () -> x.table(0, 0, 0, number));
        }
        check.refused("table(3, 0, 0, 0)", () -> x.table(3, 0, 0, 0));
        check.refused("table(0, 4, 0, 0)", () -> x.table(0, 4, 0, 0));
        check.refused("table(0, 0, 8, 0)", () -> x.table(0, 0, 8, 0));
        check.refused("table(0, 0, 0, 6)", () -> x.table(0, 0, 0, 6));
        check.is("an entry after refused calls", x.table(0, 0, 0, 0), 5);
        check.gives("table(2, 3, 7, 5)", () -> x.table(2, 3, 7, 5), 5);
    }

    private static void checkChangeUnderAnAutomaton(Check check) {
        PolicyMonitor x = new PolicyMonitor();
        x.policy(Kinds.AUTOMATON, 2, 0, 0);
        x.install(0);
        check.is("ask(4, 0) for 5", x.ask(4, 0), Kinds.IRRELEVANT);
        x.table(2, 0, 4, 4);
        check.is("ask(4, 0) for 4", x.ask(4, 0), Kinds.EXCEPTION);
        x.table(2, 0, 4, 0);
        check.is("ask(4, 0) for 0", x.ask(4, 0), Kinds.OK);
        x.table(2, 0, 4, 3);
        check.is("ask(4, 0) for 3", x.ask(4, 0), Kinds.OK);
        x.act(4, 1);
        check.is("state(0)", x.state(0), 3);
        check.is("ask(4, 0) in state 3", x.ask(4, 0), Kinds.IRRELEVANT);
    }
}
