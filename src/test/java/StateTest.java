/** Promise 9. */
public final class StateTest {
    public static void main(String[] args) {
        Check check = new Check();
        PolicyMonitor x = new PolicyMonitor();
        x.table(1, 0, 0, 2);
        x.table(1, 2, 0, 1);
        for (int kind = 0; kind <= 7; kind++) {
            x.policy(kind, kind == Kinds.AUTOMATON ? 1 : 1 << 7 | 1, 5, 5);
        }
        x.policy(Kinds.BOTH, Kinds.QUOTA, Kinds.AUTOMATON, 0);
        x.policy(Kinds.EITHER, 8, 0, 0);
        x.policy(Kinds.FIRST, 9, 1, 0);
        x.policy(Kinds.OVERRULE, 2, 7, 0);
        x.policy(Kinds.ONLY, 1, 11, 0);
        x.policy(Kinds.AUDIT, 10, 0, 0);
        x.policy(Kinds.TURN, 12, 5, 5);
        x.install(13);
        states(check, x, 0, 0);
        x.act(0, 1);
        states(check, x, 1, 2);
        x.act(0, 1);
        states(check, x, 2, 1);
        x.act(7, 1);
        states(check, x, 3, 1);
        int[] none = {Integer.MIN_VALUE, -1, 15, 39, 40, Integer.MAX_VALUE};
        for (int number : none) {
            check.gives("state(" + number + ")", () -> x.state(number), -1);
        }
        check.end();
    }

    private static void states(Check check, PolicyMonitor x, int quota, int automaton) {
        for (int number = 0; number < 15; number++) {
            int due = number == Kinds.QUOTA ? quota : number == Kinds.AUTOMATON ? automaton : -1;
            check.is("state(" + number + ")", x.state(number), due);
        }
    }
}
