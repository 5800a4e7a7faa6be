/** Promise 4. */
public final class InstallTest {
    public static void main(String[] args) {
        Check check = new Check();
        checkNoSuchPolicy(check);
        checkProgressIsForgotten(check);
        checkStopIsLifted(check);
        check.end();
    }

    private static void checkNoSuchPolicy(Check check) {
        PolicyMonitor x = new PolicyMonitor();
        int[] wrong = {Integer.MIN_VALUE, -1, 1, 40, Integer.MAX_VALUE};
        check.refused("install(0) without policies", () -> x.install(0));
        x.policy(Kinds.STOP, 1, 0, 0);
        for (int number : wrong) {
            check.refused("install(" + number + ")", () -> x.install(number));
        }
        check.is("count(6)", x.count(6), -1);
        check.gives("install(0)", () -> x.install(0), 0);
        check.stopped("act(0, 1)", () -> x.act(0, 1));
        check.refused("install(1)", () -> x.install(1));
        check.is("count(5) after a refused install", x.count(5), 1);
        check.is("count(6) after a refused install", x.count(6), 0);
    }

    private static void checkProgressIsForgotten(Check check) {
        PolicyMonitor x = new PolicyMonitor();
        x.table(0, 0, 0, 2);
        x.policy(Kinds.QUOTA, 1, 5, 0);
        x.policy(Kinds.AUTOMATON, 0, 0, 0);
        x.policy(Kinds.BOTH, 0, 1, 0);
        x.policy(Kinds.QUOTA, 1, 5, 0);
        x.install(2);
        x.act(0, 1);
        check.is("state(0)", x.state(0), 1);
        check.is("state(1)", x.state(1), 2);
        check.is("state(3), not installed", x.state(3), 0);
        check.gives("install(3)", () -> x.install(3), 0);
        check.is("state(0) after install", x.state(0), 0);
        check.is("state(1) after install", x.state(1), 0);
        x.act(0, 1);
        check.is("state(3)", x.state(3), 1);
        check.is("state(0), not installed", x.state(0), 0);
        check.gives("install(0), an operand", () -> x.install(0), 0);
        check.is("count(6)", x.count(6), 0);
        check.is("state(3) after install", x.state(3), 0);
        x.act(0, 1);
        x.act(0, 1);
        check.is("state(0), installed alone", x.state(0), 2);
        check.is("total(0) stays", x.total(0), 4);
        x.install(0);
        check.is("state(0) after the same install", x.state(0), 0);
    }

    private static void checkStopIsLifted(Check check) {
        PolicyMonitor x = new PolicyMonitor();
        x.policy(Kinds.STOP, 1, 0, 0);
        x.policy(Kinds.AUDIT, 0, 0, 0);
        x.install(1);
        check.stopped("act(0, 1)", () -> x.act(0, 1));
        check.stopped("act(1, 1) when stopped", () -> x.act(1, 1));
        x.install(1);
        check.is("count(5)", x.count(5), 0);
        check.gives("act(1, 1)", () -> x.act(1, 1), 1);
        check.is("noted(0) stays", x.noted(0), 80);
        check.is("count(4) stays", x.count(4), 2);
    }
}
