/** Promise 9. */
public final class StateTest {
    public static void main(String[] args) {
        Check check = new Check();
        checkKinds(check);
        checkNoneSuch(check);
        checkFullCounts(check);
        check.end();
    }

    /** '-1 for other POLICIES'. */
    private static void checkKinds(Check check) {
        PolicyMonitor x = new PolicyMonitor();
        x.table(1, 0, 0, 2);
        x.table(1, 2, 0, 1);
        for (int kind = 0; kind <= 7; kind++) {
            x.policy(kind, kind == Kinds.AUTOMATON ? 1 : 1 << 7 | 1, 5, 5);
        }
        x.policy(Kinds.BOTH, Kinds.QUOTA, Kinds.AUTOMATON, 0);
        x.policy(Kinds.EITHER, 8, 0, 0);
        x.policy(Kinds.FIRST, 9, 1, 0);
        x.policy(Kinds.OVERRULE, 2, 7, 0);
        x.policy(Kinds.ONLY, 1, 11, 0);
        x.policy(Kinds.AUDIT, 10, 0, 0);
        x.policy(Kinds.TURN, 12, 5, 5);
        x.install(13);
        states(check, x, 0, 0);
        x.act(0, 1);
        states(check, x, 1, 2);
        x.act(0, 1);
        states(check, x, 2, 1);
        x.act(7, 1);
        states(check, x, 3, 1);
    }

    /** '-1 ... if there is none such', beside those that there are. */
    private static void checkNoneSuch(Check check) {
        PolicyMonitor x = new PolicyMonitor();
        int[] never = {Integer.MIN_VALUE, -2, -1, 40, 41, Integer.MAX_VALUE};
        for (int made = 0; made <= 40; made++) {
            if (made % 13 <= 1) {
                for (int number : never) {
                    check.gives("state(" + number + ") of " + made, () -> x.state(number), -1);
                }
            }
            int next = made;
            check.gives("state(" + made + ") of " + made, () -> x.state(next), -1);
            if (made < 40) {
                x.policy(made % 2 == 0 ? Kinds.QUOTA : Kinds.AUTOMATON, 1, 1, 0);
                check.gives("state(" + made + ") when it is made", () -> x.state(next), 0);
            }
        }
    }

    /** A COUNT is told as it is, up to the limit of a QUOTA and, behind a TURN, beyond it. */
    private static void checkFullCounts(Check check) {
        PolicyMonitor x = new PolicyMonitor();
        x.policy(Kinds.QUOTA, 1, 99, 0);
        x.policy(Kinds.TURN, 0, Kinds.EXCEPTION, Kinds.OK);
        x.install(1);
        for (int made = 1; made <= 120; made++) {
            x.act(0, 1);
            check.is("state(0)", x.state(0), made);
        }
        x.install(0);
        check.is("state(0) after install", x.state(0), 0);
    }

    private static void states(Check check, PolicyMonitor x, int quota, int automaton) {
        for (int number = 0; number < 15; number++) {
            int due = number == Kinds.QUOTA ? quota : number == Kinds.AUTOMATON ? automaton : -1;
            check.is("state(" + number + ")", x.state(number), due);
        }
    }
}
