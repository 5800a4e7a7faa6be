/** Promise 2. */
public final class TableTest {
    private static final int LOW = Integer.MIN_VALUE;
    private static final int HIGH = Integer.MAX_VALUE;

    public static void main(String[] args) {
        Check check = new Check();
        checkEveryEntryIsItsOwn(check);
        checkWhatItWas(check);
        checkEnds(check);
        checkOutOfRange(check);
        checkChangeUnderAnAutomaton(check);
        checkEveryStateAndSort(check);
        checkStatesOfTheirOwn(check);
        check.end();
    }

    private static int mark(int k, int state, int sort) {
        return (k * 5 + state * 3 + sort) % 6;
    }

    private static void fill(Check check, PolicyMonitor x, boolean filled) {
        for (int k = 0; k < 3; k++) {
            for (int state = 0; state < 4; state++) {
                for (int sort = 0; sort < 8; sort++) {
                    int next = mark(k, state, sort);
                    String call = "table(" + k + ", " + state + ", " + sort + ", " + next + ")";
                    check.is(call, x.table(k, state, sort, next), filled ? next : 5);
                }
            }
        }
    }

    private static void checkEveryEntryIsItsOwn(Check check) {
        PolicyMonitor x = new PolicyMonitor();
        fill(check, x, false);
        fill(check, x, true);
    }

    /** '... to next 0 .. 5: what it was.' */
    private static void checkWhatItWas(Check check) {
        PolicyMonitor x = new PolicyMonitor();
        int before = 5;
        int[] nexts = {0, 0, 5, 4, 4, 3, 2, 1, 0, 5, 5};
        for (int next : nexts) {
            check.is("table(1, 2, 3, " + next + ")", x.table(1, 2, 3, next), before);
            before = next;
        }
    }

    /** 'k 0 .. 2', 'state 0 .. 3', 'sort 0 .. 7', 'next 0 .. 5': the ends of each are in. */
    private static void checkEnds(Check check) {
        PolicyMonitor x = new PolicyMonitor();
        int[][] calls = {{0, 0, 0, 0}, {2, 0, 0, 0}, {0, 3, 0, 0}, {0, 0, 7, 0}, {2, 3, 7, 5}, {2, 3, 0, 5}};
        for (int[] c : calls) {
            check.gives("table at its ends", () -> x.table(c[0], c[1], c[2], c[3]), 5);
        }
    }

    /** 'IllegalArgumentException: a number out of range'; no entry changes then. */
    private static void checkOutOfRange(Check check) {
        PolicyMonitor x = new PolicyMonitor();
        fill(check, x, false);
        int[] beyond = {3, 4, 8, 6};
        int[] highest = {2, 3, 7, 5};
        for (int place = 0; place < 4; place++) {
            int[] wrong = {LOW, -1, beyond[place], beyond[place] + 1, HIGH};
            for (int number : wrong) {
                refusedAt(check, x, new int[4], place, number);
                refusedAt(check, x, highest.clone(), place, number);
            }
        }
        check.refused("all too small", () -> x.table(-1, -1, -1, -1));
        check.refused("all too large", () -> x.table(3, 4, 8, 6));
        fill(check, x, true);
    }

    private static void refusedAt(Check check, PolicyMonitor x, int[] call, int place, int number) {
        call[place] = number;
        String text = "table(" + call[0] + ", " + call[1] + ", " + call[2] + ", " + call[3] + ")";
        check.refused(text, () -> x.table(call[0], call[1], call[2], call[3]));
    }

    private static void checkChangeUnderAnAutomaton(Check check) {
        PolicyMonitor x = new PolicyMonitor();
        x.policy(Kinds.AUTOMATON, 2, 0, 0);
        x.install(0);
        check.is("ask(4, 0) for 5", x.ask(4, 0), Kinds.IRRELEVANT);
        x.table(2, 0, 4, 4);
        check.is("ask(4, 0) for 4", x.ask(4, 0), Kinds.EXCEPTION);
        x.table(2, 0, 4, 0);
        check.is("ask(4, 0) for 0", x.ask(4, 0), Kinds.OK);
        x.table(2, 0, 4, 3);
        check.is("ask(4, 0) for 3", x.ask(4, 0), Kinds.OK);
        x.act(4, 1);
        check.is("state(0)", x.state(0), 3);
        check.is("ask(4, 0) in state 3", x.ask(4, 0), Kinds.IRRELEVANT);
        x.table(2, 3, 4, 4);
        check.is("ask(4, 0) in state 3 for 4", x.ask(4, 0), Kinds.EXCEPTION);
        check.is("setting an entry leaves the STATE", x.state(0), 3);
    }

    /** Each entry is read for its own STATE and sort, and for no other. */
    private static void checkEveryStateAndSort(Check check) {
        for (int k = 0; k < 3; k++) {
            for (int state = 0; state < 4; state++) {
                PolicyMonitor x = new PolicyMonitor();
                x.policy(Kinds.AUTOMATON, k, 0, 0);
                x.install(0);
                x.table(k, 0, 0, state);
                x.act(0, 1);
                for (int sort = 0; sort < 8; sort++) {
                    int before = x.table(k, state, sort, 4);
                    for (int asked = 0; asked < 8; asked++) {
                        boolean forbids = x.ask(asked, 0) == Kinds.EXCEPTION;
                        check.is("table " + k + ", STATE " + state + ", sort " + sort + ", ask " + asked,
                                forbids ? 1 : 0, asked == sort ? 1 : 0);
                    }
                    x.table(k, state, sort, before);
                }
            }
        }
    }

    /** Automata over one table share its entries and not their STATES. */
    private static void checkStatesOfTheirOwn(Check check) {
        PolicyMonitor x = new PolicyMonitor();
        x.table(0, 0, 0, 1);
        x.table(0, 0, 1, 2);
        x.policy(Kinds.AUTOMATON, 0, 0, 0);
        x.policy(Kinds.AUTOMATON, 0, 0, 0);
        x.policy(Kinds.ONLY, 1, 0, 0);
        x.policy(Kinds.ONLY, 2, 1, 0);
        x.policy(Kinds.BOTH, 2, 3, 0);
        x.install(4);
        x.act(0, 1);
        check.is("state(0)", x.state(0), 1);
        check.is("state(1)", x.state(1), 0);
        x.act(1, 1);
        check.is("state(0)", x.state(0), 1);
        check.is("state(1)", x.state(1), 2);
    }
}
