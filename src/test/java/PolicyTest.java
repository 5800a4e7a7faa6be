/** Promise 3: what kinds and operands may be. PolicyLimitsTest has the rest of it. */
public final class PolicyTest {
    private static final int LOW = Integer.MIN_VALUE;
    private static final int HIGH = Integer.MAX_VALUE;

    public static void main(String[] args) {
        Check check = new Check();
        checkKinds(check);
        checkSets(check);
        checkOtherOperands(check);
        checkPolicyOperands(check);
        check.end();
    }

    private static void refused(Check check, PolicyMonitor x, int kind, int a, int b, int c) {
        int before = x.count(0);
        check.refused("policy(" + kind + ", " + a + ", " + b + ", " + c + ")", () -> x.policy(kind, a, b, c));
        check.is("count(0) after a refused call", x.count(0), before);
    }

    private static void made(Check check, PolicyMonitor x, int kind, int a, int b, int c) {
        int number = x.count(0);
        check.gives("policy(" + kind + ", " + a + ", " + b + ", " + c + ")", () -> x.policy(kind, a, b, c), number);
    }

    /** 'kind out of 0 .. 14'. */
    private static void checkKinds(Check check) {
        PolicyMonitor x = new PolicyMonitor();
        int[] wrong = {LOW, -1, 15, 16, HIGH};
        for (int kind : wrong) {
            refused(check, x, kind, 0, 0, 0);
        }
        for (int kind = 0; kind <= 7; kind++) {
            made(check, x, kind, 0, 0, 0);
        }
        made(check, x, Kinds.BOTH, 0, 1, 0);
        made(check, x, Kinds.EITHER, 2, 3, 0);
        made(check, x, Kinds.FIRST, 4, 5, 0);
        made(check, x, Kinds.OVERRULE, 6, 7, 0);
        made(check, x, Kinds.ONLY, 0, 8, 0);
        made(check, x, Kinds.AUDIT, 9, 0, 0);
        made(check, x, Kinds.TURN, 10, 1, 0);
    }

    /** 'A SET of sorts is a sum of 2^sort, 0 .. 255.' */
    private static void checkSets(Check check) {
        PolicyMonitor x = new PolicyMonitor();
        int[] withSets = {0, 1, 2, 3, 4, 5, 7};
        int[] wrong = {LOW, -1, 256, HIGH};
        for (int kind : withSets) {
            for (int set : wrong) {
                refused(check, x, kind, set, 0, 0);
            }
            made(check, x, kind, 0, 0, 0);
            made(check, x, kind, 255, 0, 0);
        }
        for (int set : wrong) {
            refused(check, x, Kinds.ONLY, set, 0, 0);
        }
        made(check, x, Kinds.ONLY, 0, 0, 0);
        made(check, x, Kinds.ONLY, 255, 1, 0);
    }

    /** 'b (0 .. 99)', 'PRELUDE: b a sort', 'AUTOMATON a (0 .. 2)', 'kind b (1, 4 or 5)', 'kind c (0, 1, 4 or 5)'. */
    private static void checkOtherOperands(Check check) {
        PolicyMonitor x = new PolicyMonitor();
        int[] quotas = {LOW, -1, 100, HIGH};
        int[] sorts = {LOW, -1, 8, HIGH};
        int[] tables = {LOW, -1, 3, HIGH};
        int[] turned = {LOW, -1, 2, 3, 6, HIGH};
        for (int b : quotas) {
            refused(check, x, Kinds.QUOTA, 1, b, 0);
        }
        for (int b : sorts) {
            refused(check, x, Kinds.PRELUDE, 1, b, 0);
        }
        for (int a : tables) {
            refused(check, x, Kinds.AUTOMATON, a, 0, 0);
        }
        made(check, x, Kinds.QUOTA, 1, 0, LOW);
        made(check, x, Kinds.QUOTA, 1, 99, HIGH);
        made(check, x, Kinds.PRELUDE, 1, 0, LOW);
        made(check, x, Kinds.PRELUDE, 1, 7, HIGH);
        made(check, x, Kinds.AUTOMATON, 0, LOW, HIGH);
        made(check, x, Kinds.AUTOMATON, 2, HIGH, LOW);
        for (int kind : turned) {
            refused(check, x, Kinds.TURN, 0, kind, 1);
            refused(check, x, Kinds.TURN, 0, 1, kind);
        }
        refused(check, x, Kinds.TURN, 0, 0, 1);
        int[] from = {1, 4, 5};
        int[] to = {0, 1, 4, 5};
        for (int b : from) {
            for (int c : to) {
                made(check, x, Kinds.ALLOW, 1, 0, 0);
                made(check, x, Kinds.TURN, x.count(0) - 1, b, c);
            }
        }
        checkUnnamedOperands(check);
    }

    /** 'those that are not named may be any int'. */
    private static void checkUnnamedOperands(Check check) {
        PolicyMonitor x = new PolicyMonitor();
        int[] any = {LOW, -1, 8, 256, HIGH};
        int[] free = {Kinds.ALLOW, Kinds.FORBID, Kinds.STOP, Kinds.ANSWER, Kinds.RANGE};
        for (int kind : free) {
            for (int number : any) {
                made(check, x, kind, 1, number, number);
            }
        }
        made(check, x, Kinds.RANGE, 1, 3, -3);
        made(check, x, Kinds.BOTH, 0, 1, LOW);
        made(check, x, Kinds.ONLY, 1, 2, HIGH);
        made(check, x, Kinds.AUDIT, 3, LOW, HIGH);
        made(check, x, Kinds.AUDIT, 4, 4, 4);
        made(check, x, Kinds.AUDIT, 5, 3, 3);
        // A set may well be the number of the operand beside it.
        made(check, x, Kinds.ONLY, 6, 6, 0);
        made(check, x, Kinds.EITHER, 7, 8, LOW);
        made(check, x, Kinds.FIRST, 9, 10, HIGH);
        made(check, x, Kinds.OVERRULE, 11, 12, -1);
        checkThatUnnamedOperandsAreNotUsed(check);
    }

    private static void checkThatUnnamedOperandsAreNotUsed(Check check) {
        PolicyMonitor x = new PolicyMonitor();
        for (int i = 0; i < 6; i++) {
            made(check, x, Kinds.ALLOW, 0, 0, 0);
        }
        made(check, x, Kinds.AUDIT, 1, 0, 0);
        made(check, x, Kinds.BOTH, 2, 3, 0);
        made(check, x, Kinds.ONLY, 0, 4, 0);
        made(check, x, Kinds.TURN, 5, 4, 0);
        made(check, x, Kinds.AUDIT, 0, 0, 0);
    }

    /** 'their operands are earlier POLICIES'. */
    private static void checkPolicyOperands(Check check) {
        PolicyMonitor x = new PolicyMonitor();
        made(check, x, Kinds.ALLOW, 1, 0, 0);
        made(check, x, Kinds.ALLOW, 1, 0, 0);
        int[] wrong = {LOW, -1, 2, 3, HIGH};
        for (int number : wrong) {
            for (int kind = Kinds.BOTH; kind <= Kinds.OVERRULE; kind++) {
                refused(check, x, kind, number, 0, 0);
                refused(check, x, kind, 0, number, 0);
            }
            refused(check, x, Kinds.ONLY, 0, number, 0);
            refused(check, x, Kinds.AUDIT, number, 0, 0);
            refused(check, x, Kinds.TURN, number, 1, 0);
        }
        made(check, x, Kinds.BOTH, 1, 0, 0);
    }
}
