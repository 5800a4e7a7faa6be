/** Promise 3. */
public final class PolicyTest {
    private static final int LOW = Integer.MIN_VALUE;
    private static final int HIGH = Integer.MAX_VALUE;

    public static void main(String[] args) {
        Check check = new Check();
        checkKinds(check);
        checkSets(check);
        checkOtherOperands(check);
        checkPolicyOperands(check);
        checkUse(check);
        checkLevels(check);
        checkNumber(check);
        checkOrder(check);
        check.end();
    }

    private static void refused(Check check, PolicyMonitor x, int kind, int a, int b, int c) {
        int before = x.count(0);
        check.refused("policy(" + kind + ", " + a + ", " + b + ", " + c + ")", () -> x.policy(kind, a, b, c));
        check.is("count(0) after a refused call", x.count(0), before);
    }

    private static void made(Check check, PolicyMonitor x, int kind, int a, int b, int c) {
        int number = x.count(0);
        check.gives("policy(" + kind + ", " + a + ", " + b + ", " + c + ")", () -> x.policy(kind, a, b, c), number);
    }

    private static void checkKinds(Check check) {
        PolicyMonitor x = new PolicyMonitor();
        int[] wrong = {LOW, -1, 15, 16, HIGH};
        for (int kind : wrong) {
            refused(check, x, kind, 0, 0, 0);
        }
        for (int kind = 0; kind <= 7; kind++) {
            made(check, x, kind, 0, 0, 0);
        }
        made(check, x, Kinds.BOTH, 0, 1, 0);
        made(check, x, Kinds.EITHER, 2, 3, 0);
        made(check, x, Kinds.FIRST, 4, 5, 0);
        made(check, x, Kinds.OVERRULE, 6, 7, 0);
        made(check, x, Kinds.ONLY, 0, 8, 0);
        made(check, x, Kinds.AUDIT, 9, 0, 0);
        made(check, x, Kinds.TURN, 10, 1, 0);
    }

    private static void checkSets(Check check) {
        PolicyMonitor x = new PolicyMonitor();
        int[] withSets = {0, 1, 2, 3, 4, 5, 7};
        int[] wrong = {LOW, -1, 256, HIGH};
        for (int kind : withSets) {
            for (int set : wrong) {
                refused(check, x, kind, set, 0, 0);
            }
            made(check, x, kind, 0, 0, 0);
            made(check, x, kind, 255, 0, 0);
        }
        for (int set : wrong) {
            refused(check, x, Kinds.ONLY, set, 0, 0);
        }
        made(check, x, Kinds.ONLY, 0, 0, 0);
        made(check, x, Kinds.ONLY, 255, 1, 0);
    }

    private static void checkOtherOperands(Check check) {
        PolicyMonitor x = new PolicyMonitor();
        int[] quotas = {LOW, -1, 100, HIGH};
        int[] sorts = {LOW, -1, 8, HIGH};
        int[] tables = {LOW, -1, 3, HIGH};
        int[] turned = {LOW, -1, 2, 3, 6, HIGH};
        for (int b : quotas) {
            refused(check, x, Kinds.QUOTA, 1, b, 0);
        }
        for (int b : sorts) {
            refused(check, x, Kinds.PRELUDE, 1, b, 0);
        }
        for (int a : tables) {
            refused(check, x, Kinds.AUTOMATON, a, 0, 0);
        }
        made(check, x, Kinds.QUOTA, 1, 0, LOW);
        made(check, x, Kinds.QUOTA, 1, 99, HIGH);
        made(check, x, Kinds.PRELUDE, 1, 0, LOW);
        made(check, x, Kinds.PRELUDE, 1, 7, HIGH);
        made(check, x, Kinds.AUTOMATON, 0, LOW, HIGH);
        made(check, x, Kinds.AUTOMATON, 2, HIGH, LOW);
        for (int kind : turned) {
            refused(check, x, Kinds.TURN, 0, kind, 1);
            refused(check, x, Kinds.TURN, 0, 1, kind);
        }
        refused(check, x, Kinds.TURN, 0, 0, 1);
        int[] from = {1, 4, 5};
        int[] to = {0, 1, 4, 5};
        for (int b : from) {
            for (int c : to) {
                made(check, x, Kinds.ALLOW, 1, 0, 0);
                made(check, x, Kinds.TURN, x.count(0) - 1, b, c);
            }
        }
        checkUnnamedOperands(check);
    }

    private static void checkUnnamedOperands(Check check) {
        PolicyMonitor x = new PolicyMonitor();
        int[] any = {LOW, -1, 8, 256, HIGH};
        int[] free = {Kinds.ALLOW, Kinds.FORBID, Kinds.STOP, Kinds.ANSWER, Kinds.RANGE};
        for (int kind : free) {
            for (int number : any) {
                made(check, x, kind, 1, number, number);
            }
        }
        made(check, x, Kinds.RANGE, 1, 3, -3);
        made(check, x, Kinds.BOTH, 0, 1, LOW);
        made(check, x, Kinds.ONLY, 1, 2, HIGH);
        made(check, x, Kinds.AUDIT, 3, LOW, HIGH);
        made(check, x, Kinds.AUDIT, 4, 4, 4);
        made(check, x, Kinds.AUDIT, 5, 3, 3);
        // For these a set, and a kind of suggestion, may well be the number of the operand beside it.
        made(check, x, Kinds.ONLY, 6, 6, 0);
    }

    private static void checkPolicyOperands(Check check) {
        PolicyMonitor x = new PolicyMonitor();
        made(check, x, Kinds.ALLOW, 1, 0, 0);
        made(check, x, Kinds.ALLOW, 1, 0, 0);
        int[] wrong = {LOW, -1, 2, 3, HIGH};
        for (int number : wrong) {
            for (int kind = Kinds.BOTH; kind <= Kinds.OVERRULE; kind++) {
                refused(check, x, kind, number, 0, 0);
                refused(check, x, kind, 0, number, 0);
            }
            refused(check, x, Kinds.ONLY, 0, number, 0);
            refused(check, x, Kinds.AUDIT, number, 0, 0);
            refused(check, x, Kinds.TURN, number, 1, 0);
        }
        made(check, x, Kinds.BOTH, 1, 0, 0);
    }

    private static void checkUse(Check check) {
        PolicyMonitor x = new PolicyMonitor();
        for (int i = 0; i < 8; i++) {
            x.policy(Kinds.ALLOW, 1, 0, 0);
        }
        for (int kind = Kinds.BOTH; kind <= Kinds.OVERRULE; kind++) {
            int k = kind;
            check.forbidden("the same twice", () -> x.policy(k, 7, 7, 0));
        }
        made(check, x, Kinds.BOTH, 0, 1, 0);
        made(check, x, Kinds.ONLY, 1, 2, 0);
        made(check, x, Kinds.AUDIT, 3, 0, 0);
        made(check, x, Kinds.TURN, 4, 1, 0);
        for (int number = 0; number <= 4; number++) {
            int p = number;
            for (int kind = Kinds.BOTH; kind <= Kinds.OVERRULE; kind++) {
                int k = kind;
                check.forbidden("a is used: " + p, () -> x.policy(k, p, 7, 0));
                check.forbidden("b is used: " + p, () -> x.policy(k, 7, p, 0));
            }
            check.forbidden("ONLY of " + p, () -> x.policy(Kinds.ONLY, 1, p, 0));
            check.forbidden("AUDIT of " + p, () -> x.policy(Kinds.AUDIT, p, 0, 0));
            check.forbidden("TURN of " + p, () -> x.policy(Kinds.TURN, p, 1, 0));
        }
        // Refused calls used nothing up; a of ONLY and b of TURN are no policies.
        made(check, x, Kinds.AUDIT, 7, 0, 0);
        made(check, x, Kinds.ONLY, 0, 5, 0);
        made(check, x, Kinds.TURN, 6, 4, 0);
    }

    private static void checkLevels(Check check) {
        PolicyMonitor x = new PolicyMonitor();
        made(check, x, Kinds.ALLOW, 1, 0, 0);
        made(check, x, Kinds.AUDIT, 0, 0, 0);
        made(check, x, Kinds.ONLY, 1, 1, 0);
        made(check, x, Kinds.TURN, 2, 1, 0);
        made(check, x, Kinds.FORBID, 1, 0, 0);
        made(check, x, Kinds.BOTH, 3, 4, 0);
        made(check, x, Kinds.FORBID, 1, 0, 0);
        made(check, x, Kinds.FIRST, 6, 5, 0);
        made(check, x, Kinds.AUDIT, 7, 0, 0);
        made(check, x, Kinds.FORBID, 1, 0, 0);
        for (int kind = Kinds.BOTH; kind <= Kinds.OVERRULE; kind++) {
            int k = kind;
            check.stopped("level 8 by a", () -> x.policy(k, 8, 9, 0));
            check.stopped("level 8 by b", () -> x.policy(k, 9, 8, 0));
        }
        check.stopped("level 8 by ONLY", () -> x.policy(Kinds.ONLY, 1, 8, 0));
        check.stopped("level 8 by AUDIT", () -> x.policy(Kinds.AUDIT, 8, 0, 0));
        check.stopped("level 8 by TURN", () -> x.policy(Kinds.TURN, 8, 1, 0));
        check.is("count(0)", x.count(0), 10);
        made(check, x, Kinds.AUDIT, 9, 0, 0);
    }

    private static void checkNumber(Check check) {
        PolicyMonitor x = new PolicyMonitor();
        for (int i = 0; i < 40; i++) {
            made(check, x, Kinds.ALLOW, 1, 0, 0);
        }
        check.tooDeep("the 41st", () -> x.policy(Kinds.ALLOW, 1, 0, 0));
        check.tooDeep("the 41st, with operands", () -> x.policy(Kinds.BOTH, 38, 39, 0));
        check.is("count(0)", x.count(0), 40);
        check.gives("install(39)", () -> x.install(39), 0);
    }

    private static void checkOrder(Check check) {
        PolicyMonitor x = new PolicyMonitor();
        made(check, x, Kinds.ALLOW, 1, 0, 0);
        for (int i = 0; i < 6; i++) {
            made(check, x, Kinds.AUDIT, i, 0, 0);
        }
        check.refused("used and not as said", () -> x.policy(Kinds.TURN, 0, 2, 0));
        check.refused("a used, b none such", () -> x.policy(Kinds.BOTH, 0, 7, 0));
        check.forbidden("b used, a of level 7", () -> x.policy(Kinds.BOTH, 6, 0, 0));
        check.forbidden("the same, of level 7", () -> x.policy(Kinds.BOTH, 6, 6, 0));
        while (x.count(0) < 40) {
            made(check, x, Kinds.ALLOW, 1, 0, 0);
        }
        refused(check, x, Kinds.ALLOW, 256, 0, 0);
        refused(check, x, 15, 0, 0, 0);
        check.forbidden("used, and there are 40", () -> x.policy(Kinds.AUDIT, 0, 0, 0));
        check.forbidden("the same, and there are 40", () -> x.policy(Kinds.BOTH, 39, 39, 0));
        check.stopped("level 8, and there are 40", () -> x.policy(Kinds.AUDIT, 6, 0, 0));
        check.tooDeep("there are 40", () -> x.policy(Kinds.AUDIT, 39, 0, 0));
    }
}
