/** Promise 4. */
public final class InstallTest {
    public static void main(String[] args) {
        Check check = new Check();
        checkNoSuchPolicy(check);
        checkInPlaceOfAnyOther(check);
        checkUsedOrNot(check);
        checkProgressIsForgotten(check);
        checkProgressOfAllIsForgotten(check);
        checkRefusedInstallForgetsNothing(check);
        checkStopIsLifted(check);
        checkWhatStays(check);
        checkNothingIsSpent(check);
        check.end();
    }

    /** 'IllegalArgumentException: no such POLICY.' */
    private static void checkNoSuchPolicy(Check check) {
        PolicyMonitor x = new PolicyMonitor();
        int[] wrong = {Integer.MIN_VALUE, -1, 1, 2, 39, 40, Integer.MAX_VALUE};
        check.refused("install(0) without policies", () -> x.install(0));
        x.policy(Kinds.STOP, 1, 0, 0);
        for (int number : wrong) {
            check.refused("install(" + number + ")", () -> x.install(number));
        }
        check.is("count(6)", x.count(6), -1);
        check.gives("install(0)", () -> x.install(0), 0);
        check.stopped("act(0, 1)", () -> x.act(0, 1));
        for (int number : wrong) {
            check.refused("install(" + number + ")", () -> x.install(number));
        }
        check.is("count(5) after a refused install", x.count(5), 1);
        check.is("count(6) after a refused install", x.count(6), 0);
        x.policy(Kinds.ALLOW, 1, 0, 0);
        check.gives("install(1), when it is made", () -> x.install(1), 0);
    }

    /** 'in place of any other'. */
    private static void checkInPlaceOfAnyOther(Check check) {
        PolicyMonitor x = new PolicyMonitor();
        for (int kind = 0; kind <= 5; kind++) {
            Kinds.suggesting(x, kind, 1, 7);
        }
        for (int from = 0; from <= 5; from++) {
            for (int to = 0; to <= 5; to++) {
                x.install(from);
                int t = to;
                check.gives("install(" + to + ") after " + from, () -> x.install(t), 0);
                check.is("count(6)", x.count(6), to);
                check.is("ask(0, 0) of " + to + " after " + from, x.ask(0, 0), to);
            }
        }
    }

    /** 'The POLICY (used as an operand or not) is installed'; and one that is installed may be used later. */
    private static void checkUsedOrNot(Check check) {
        PolicyMonitor x = new PolicyMonitor();
        x.policy(Kinds.QUOTA, 1, 1, 0);
        x.install(0);
        x.act(0, 5);
        check.gives("AUDIT of the installed one", () -> x.policy(Kinds.AUDIT, 0, 0, 0), 1);
        check.is("count(6)", x.count(6), 0);
        check.is("its COUNT", x.state(0), 1);
        check.forbidden("act(0, 5)", () -> x.act(0, 5));
        check.is("nothing is noted", x.count(1), 0);
        check.gives("install(1)", () -> x.install(1), 0);
        check.gives("act(0, 5)", () -> x.act(0, 5), 10);
        check.is("noted(0)", x.noted(0), 16);
        check.gives("install(0), which is used", () -> x.install(0), 0);
        check.gives("act(0, 5)", () -> x.act(0, 5), 15);
        check.is("nothing more is noted", x.count(1), 1);
        check.forbidden("it is still used", () -> x.policy(Kinds.AUDIT, 0, 0, 0));
    }

    private static void checkProgressIsForgotten(Check check) {
        PolicyMonitor x = new PolicyMonitor();
        x.table(0, 0, 0, 2);
        x.policy(Kinds.QUOTA, 1, 5, 0);
        x.policy(Kinds.AUTOMATON, 0, 0, 0);
        x.policy(Kinds.BOTH, 0, 1, 0);
        x.policy(Kinds.QUOTA, 1, 5, 0);
        x.install(2);
        x.act(0, 1);
        check.is("state(0)", x.state(0), 1);
        check.is("state(1)", x.state(1), 2);
        check.is("state(3), not installed", x.state(3), 0);
        check.gives("install(3)", () -> x.install(3), 0);
        check.is("state(0) after install", x.state(0), 0);
        check.is("state(1) after install", x.state(1), 0);
        x.act(0, 1);
        check.is("state(3)", x.state(3), 1);
        check.is("state(0), not installed", x.state(0), 0);
        check.gives("install(0), an operand", () -> x.install(0), 0);
        check.is("count(6)", x.count(6), 0);
        check.is("state(3) after install", x.state(3), 0);
        x.act(0, 1);
        x.act(0, 1);
        check.is("state(0), installed alone", x.state(0), 2);
        check.is("total(0) stays", x.total(0), 4);
        x.install(0);
        check.is("state(0) after the same install", x.state(0), 0);
    }

    /** Twenty of them under BOTHS, the POLICIES 0 to 19; then an ALLOW, the policy 39. */
    private static PolicyMonitor manyWithProgress() {
        PolicyMonitor x = new PolicyMonitor();
        x.table(1, 0, 0, 3);
        int[] tops = new int[20];
        for (int i = 0; i < 20; i++) {
            tops[i] = i % 2 == 0 ? x.policy(Kinds.QUOTA, 1, 9, 0) : x.policy(Kinds.AUTOMATON, 1, 0, 0);
        }
        Kinds.join(x, Kinds.BOTH, tops);
        x.policy(Kinds.ALLOW, 1, 0, 0);
        x.install(38);
        x.act(0, 1);
        return x;
    }

    private static void progress(Check check, String when, PolicyMonitor x, int count, int state) {
        for (int i = 0; i < 20; i++) {
            check.is("state(" + i + ") " + when, x.state(i), i % 2 == 0 ? count : state);
        }
    }

    /** 'COUNTS and STATES of all POLICIES become 0', also of those outside the one that is installed. */
    private static void checkProgressOfAllIsForgotten(Check check) {
        int[] next = {38, 39, 0, 19};
        for (int number : next) {
            PolicyMonitor x = manyWithProgress();
            progress(check, "before", x, 1, 3);
            check.gives("install(" + number + ")", () -> x.install(number), 0);
            progress(check, "after install(" + number + ")", x, 0, 0);
        }
    }

    private static void checkRefusedInstallForgetsNothing(Check check) {
        PolicyMonitor x = manyWithProgress();
        check.refused("install(40)", () -> x.install(40));
        check.refused("install(-1)", () -> x.install(-1));
        progress(check, "after a refused install", x, 1, 3);
        check.is("count(6)", x.count(6), 38);
    }

    /** 'it is not stopped any more'. */
    private static void checkStopIsLifted(Check check) {
        PolicyMonitor x = new PolicyMonitor();
        x.policy(Kinds.STOP, 1, 0, 0);
        x.policy(Kinds.AUDIT, 0, 0, 0);
        x.policy(Kinds.ALLOW, 1, 0, 0);
        x.install(1);
        check.stopped("act(0, 1)", () -> x.act(0, 1));
        check.stopped("act(1, 1) when stopped", () -> x.act(1, 1));
        x.install(1);
        check.is("count(5)", x.count(5), 0);
        check.gives("act(1, 1)", () -> x.act(1, 1), 1);
        check.is("noted(0) stays", x.noted(0), 80);
        check.is("count(4) stays", x.count(4), 2);
        check.stopped("act(0, 1) stops it again", () -> x.act(0, 1));
        check.is("count(5)", x.count(5), 1);
        check.gives("install(2), another one", () -> x.install(2), 0);
        check.is("count(5)", x.count(5), 0);
        check.gives("act(0, 1)", () -> x.act(0, 1), 1);
    }

    /** What the promise does not name stays as it is: TOTALS, tables, what was noted and counted. */
    private static void checkWhatStays(Check check) {
        PolicyMonitor x = new PolicyMonitor();
        x.table(2, 3, 7, 1);
        x.policy(Kinds.ANSWER, 2, 9, 0);
        x.policy(Kinds.FORBID, 4, 0, 0);
        x.policy(Kinds.FIRST, 0, 1, 0);
        x.policy(Kinds.AUDIT, 2, 0, 0);
        x.install(3);
        x.act(0, 6);
        x.act(1, 6);
        check.forbidden("act(2, 6)", () -> x.act(2, 6));
        check.gives("install(3)", () -> x.install(3), 0);
        int[] counts = {4, 2, 1, 1, 1, 0, 3};
        for (int what = 0; what < counts.length; what++) {
            check.is("count(" + what + ")", x.count(what), counts[what]);
        }
        check.is("total(0)", x.total(0), 6);
        check.is("noted(0)", x.noted(0), 66);
        check.is("noted(1)", x.noted(1), 49);
        check.is("the entry", x.table(2, 3, 7, 5), 1);
        check.forbidden("a used operand is still used", () -> x.policy(Kinds.AUDIT, 0, 0, 0));
    }

    /** 'after install, no PRELUDE is SPENT'. */
    private static void checkNothingIsSpent(Check check) {
        PolicyMonitor x = new PolicyMonitor();
        x.policy(Kinds.PRELUDE, 1, 1, 5);
        x.policy(Kinds.STOP, 2, 0, 0);
        x.policy(Kinds.BOTH, 0, 1, 0);
        x.install(2);
        check.stopped("act(0, 1)", () -> x.act(0, 1));
        x.install(0);
        check.is("ask(0, 1)", x.ask(0, 1), Kinds.INSERT);
        check.gives("act(0, 1)", () -> x.act(0, 1), 1);
        check.is("total(1)", x.total(1), 5);
    }
}
