/** Promise 3: used operands, LEVELS, the number of POLICIES, and the order of the exceptions. */
public final class PolicyLimitsTest {
    public static void main(String[] args) {
        Check check = new Check();
        checkUse(check);
        checkUseAsAnyOperand(check);
        checkSame(check);
        checkRefusedUse(check);
        checkLevels(check);
        checkEveryKindUpToLevelSeven(check);
        checkLevelIsTheGreatest(check);
        checkNumber(check);
        checkTheLastPolicy(check);
        checkOrder(check);
        checkOrderWhenFull(check);
        check.end();
    }

    private static int make(PolicyMonitor x, int kind, int a, int b) {
        return x.policy(kind, a, b, kind == Kinds.TURN ? Kinds.IRRELEVANT : 0);
    }

    private static void made(Check check, PolicyMonitor x, int kind, int a, int b) {
        int number = x.count(0);
        check.gives("policy(" + kind + ", " + a + ", " + b + ", ..)", () -> make(x, kind, a, b), number);
    }

    /** The kind over one policy; a pair has the other one as b, or as a if it is turned round. */
    private static int over(PolicyMonitor x, int kind, int p, int other, boolean turnedRound) {
        switch (kind) {
            case Kinds.ONLY:
                return x.policy(kind, Kinds.ALL, p, 0);
            case Kinds.AUDIT:
                return x.policy(kind, p, 0, 0);
            case Kinds.TURN:
                return x.policy(kind, p, Kinds.HALT, Kinds.OK);
            default:
                return turnedRound ? x.policy(kind, other, p, 0) : x.policy(kind, p, other, 0);
        }
    }

    private static PolicyMonitor withAllows(int number) {
        PolicyMonitor x = new PolicyMonitor();
        for (int i = 0; i < number; i++) {
            x.policy(Kinds.ALLOW, 1, 0, 0);
        }
        return x;
    }

    /** A tower of AUDITS, of which the policy 6 has LEVEL 7. */
    private static PolicyMonitor tower() {
        PolicyMonitor x = withAllows(1);
        for (int i = 0; i < 6; i++) {
            x.policy(Kinds.AUDIT, i, 0, 0);
        }
        return x;
    }

    private static void checkUse(Check check) {
        PolicyMonitor x = withAllows(8);
        made(check, x, Kinds.BOTH, 0, 1);
        made(check, x, Kinds.ONLY, 1, 2);
        made(check, x, Kinds.AUDIT, 3, 0);
        made(check, x, Kinds.TURN, 4, 1);
        for (int number = 0; number <= 4; number++) {
            int p = number;
            for (int kind = Kinds.BOTH; kind <= Kinds.OVERRULE; kind++) {
                int k = kind;
                check.forbidden("a is used: " + p, () -> x.policy(k, p, 7, 0));
                check.forbidden("b is used: " + p, () -> x.policy(k, 7, p, 0));
            }
            check.forbidden("ONLY of " + p, () -> x.policy(Kinds.ONLY, 1, p, 0));
            check.forbidden("AUDIT of " + p, () -> x.policy(Kinds.AUDIT, p, 0, 0));
            check.forbidden("TURN of " + p, () -> x.policy(Kinds.TURN, p, 1, 0));
        }
        // Refused calls used nothing up; a of ONLY and b of TURN are no policies.
        made(check, x, Kinds.AUDIT, 7, 0);
        made(check, x, Kinds.ONLY, 0, 5);
        made(check, x, Kinds.TURN, 6, 4);
    }

    /** 'each used at most once as an operand': by whatever kind, as whichever operand, a second time is refused. */
    private static void checkUseAsAnyOperand(Check check) {
        for (int kind = Kinds.BOTH; kind <= Kinds.TURN; kind++) {
            for (int again = Kinds.BOTH; again <= Kinds.TURN; again++) {
                int k = again;
                PolicyMonitor x = withAllows(4);
                over(x, kind, 0, 1, false);
                check.forbidden(again + " of what " + kind + " uses", () -> over(x, k, 0, 2, false));
                PolicyMonitor y = withAllows(4);
                over(y, kind, 0, 1, true);
                check.forbidden(again + " of what " + kind + " uses", () -> over(y, k, 0, 2, true));
                check.is("count(0)", x.count(0) + y.count(0), 10);
            }
        }
    }

    /** 'a and b are the same POLICY'. */
    private static void checkSame(Check check) {
        PolicyMonitor x = withAllows(2);
        for (int kind = Kinds.BOTH; kind <= Kinds.OVERRULE; kind++) {
            int k = kind;
            check.forbidden("the same twice", () -> x.policy(k, 0, 0, 0));
            check.forbidden("the same twice", () -> x.policy(k, 1, 1, 0));
        }
        check.is("count(0)", x.count(0), 2);
        made(check, x, Kinds.BOTH, 0, 1);
        check.forbidden("the same twice, and used", () -> x.policy(Kinds.BOTH, 0, 0, 0));
    }

    /** A refused call uses neither of its operands. */
    private static void checkRefusedUse(Check check) {
        for (int kind = Kinds.BOTH; kind <= Kinds.OVERRULE; kind++) {
            int k = kind;
            PolicyMonitor x = tower();
            x.policy(Kinds.ALLOW, 1, 0, 0);
            x.policy(Kinds.ALLOW, 1, 0, 0);
            check.refused("b is none", () -> x.policy(k, 7, 9, 0));
            check.refused("a is none", () -> x.policy(k, 9, 7, 0));
            check.forbidden("b is used", () -> x.policy(k, 7, 0, 0));
            check.forbidden("a is used", () -> x.policy(k, 0, 7, 0));
            check.forbidden("both are the same", () -> x.policy(k, 7, 7, 0));
            check.stopped("b has LEVEL 7", () -> x.policy(k, 7, 6, 0));
            check.stopped("a has LEVEL 7", () -> x.policy(k, 6, 7, 0));
            check.is("count(0)", x.count(0), 9);
            made(check, x, kind, 7, 8);
        }
    }

    private static void checkLevels(Check check) {
        PolicyMonitor x = new PolicyMonitor();
        made(check, x, Kinds.ALLOW, 1, 0);
        made(check, x, Kinds.AUDIT, 0, 0);
        made(check, x, Kinds.ONLY, 1, 1);
        made(check, x, Kinds.TURN, 2, 1);
        made(check, x, Kinds.FORBID, 1, 0);
        made(check, x, Kinds.BOTH, 3, 4);
        made(check, x, Kinds.FORBID, 1, 0);
        made(check, x, Kinds.FIRST, 6, 5);
        made(check, x, Kinds.AUDIT, 7, 0);
        made(check, x, Kinds.FORBID, 1, 0);
        for (int kind = Kinds.BOTH; kind <= Kinds.TURN; kind++) {
            int k = kind;
            check.stopped("LEVEL 8 by " + kind, () -> over(x, k, 8, 9, false));
            check.stopped("LEVEL 8 by " + kind, () -> over(x, k, 8, 9, true));
        }
        check.is("count(0)", x.count(0), 10);
        made(check, x, Kinds.AUDIT, 9, 0);
    }

    /** 'at most 7': six times any one kind over a POLICY without operands, and no seventh time. */
    private static void checkEveryKindUpToLevelSeven(Check check) {
        for (int kind = Kinds.BOTH; kind <= Kinds.TURN; kind++) {
            for (int round = 0; round < 2; round++) {
                boolean turnedRound = round == 1;
                int k = kind;
                PolicyMonitor x = withAllows(8);
                int[] top = {0};
                for (int level = 2; level <= 7; level++) {
                    int other = level;
                    int due = 6 + level;
                    check.gives("LEVEL " + level + " of " + kind, () -> over(x, k, top[0], other, turnedRound), due);
                    top[0] = due;
                }
                check.stopped("LEVEL 8 of " + kind, () -> over(x, k, top[0], 1, turnedRound));
                check.is("count(0)", x.count(0), 14);
                check.gives("LEVEL 7 is installed", () -> x.install(13), 0);
            }
        }
    }

    /** 'one more than the greatest of theirs': not than their sum, and not than the newest's. */
    private static void checkLevelIsTheGreatest(Check check) {
        PolicyMonitor x = new PolicyMonitor();
        for (int side = 0; side < 2; side++) {
            int top = x.policy(Kinds.ALLOW, 1, 0, 0);
            for (int i = 0; i < 5; i++) {
                top = x.policy(Kinds.AUDIT, top, 0, 0);
            }
        }
        made(check, x, Kinds.BOTH, 5, 11);
        made(check, x, Kinds.ALLOW, 1, 0);
        check.stopped("over LEVELS 7 and 1", () -> x.policy(Kinds.FIRST, 12, 13, 0));
        check.stopped("over LEVELS 1 and 7", () -> x.policy(Kinds.FIRST, 13, 12, 0));
    }

    /** 'at most 40', 'there are 40'. */
    private static void checkNumber(Check check) {
        PolicyMonitor x = new PolicyMonitor();
        for (int i = 0; i < 40; i++) {
            made(check, x, Kinds.ALLOW, 1, 0);
        }
        for (int kind = 0; kind <= Kinds.AUTOMATON + 1; kind++) {
            int k = kind;
            check.tooDeep("the 41st of kind " + kind, () -> x.policy(k, 1, 0, 0));
        }
        // Twice, as the first of these calls must not have used its operands.
        for (int round = 0; round < 2; round++) {
            for (int kind = Kinds.BOTH; kind <= Kinds.TURN; kind++) {
                int k = kind;
                check.tooDeep("the 41st of kind " + kind, () -> over(x, k, 38, 39, false));
            }
        }
        check.is("count(0)", x.count(0), 40);
        check.is("state(40)", x.state(40), -1);
        check.refused("install(40)", () -> x.install(40));
        check.gives("install(39)", () -> x.install(39), 0);
    }

    /** The 40th POLICY is as good as the others. */
    private static void checkTheLastPolicy(Check check) {
        PolicyMonitor x = withAllows(39);
        made(check, x, Kinds.QUOTA, 2, 1);
        x.install(39);
        check.gives("act(1, 4)", () -> x.act(1, 4), 4);
        check.is("state(39)", x.state(39), 1);
        check.forbidden("act(1, 4)", () -> x.act(1, 4));
        PolicyMonitor y = withAllows(39);
        made(check, y, Kinds.PRELUDE, 2, 7);
        y.install(39);
        check.gives("detail(1, 0, 0)", () -> y.detail(1, 0, 0), 7);
        check.gives("act(1, 4)", () -> y.act(1, 4), 4);
        check.is("count(2)", y.count(2), 2);
        check.is("it is not SPENT", y.ask(1, 0), Kinds.INSERT);
        PolicyMonitor z = withAllows(39);
        made(check, z, Kinds.OVERRULE, 37, 38);
        z.install(39);
        check.is("ask(0, 0)", z.ask(0, 0), Kinds.OK);
    }

    /** 'In this order.' */
    private static void checkOrder(Check check) {
        PolicyMonitor x = tower();
        check.refused("used and not as said", () -> x.policy(Kinds.TURN, 0, 2, 0));
        check.refused("a used, b none such", () -> x.policy(Kinds.BOTH, 0, 7, 0));
        check.refused("a none such, b used", () -> x.policy(Kinds.BOTH, 7, 0, 0));
        check.refused("a no SET, b used", () -> x.policy(Kinds.ONLY, 256, 0, 0));
        check.refused("LEVEL 8 and b is not as said", () -> x.policy(Kinds.TURN, 6, 2, 0));
        check.refused("LEVEL 8 and c is not as said", () -> x.policy(Kinds.TURN, 6, 1, 2));
        check.refused("LEVEL 8 and no SET", () -> x.policy(Kinds.ONLY, -1, 6, 0));
        check.refused("LEVEL 8 and b none such", () -> x.policy(Kinds.BOTH, 6, 7, 0));
        check.forbidden("b used, a of LEVEL 7", () -> x.policy(Kinds.BOTH, 6, 0, 0));
        check.forbidden("a used, b of LEVEL 7", () -> x.policy(Kinds.BOTH, 0, 6, 0));
        check.forbidden("the same, of LEVEL 7", () -> x.policy(Kinds.BOTH, 6, 6, 0));
        check.stopped("LEVEL 8", () -> x.policy(Kinds.AUDIT, 6, 0, 0));
        check.is("count(0)", x.count(0), 7);
    }

    private static void checkOrderWhenFull(Check check) {
        PolicyMonitor x = tower();
        while (x.count(0) < 40) {
            made(check, x, Kinds.ALLOW, 1, 0);
        }
        check.refused("no SET, and there are 40", () -> x.policy(Kinds.ALLOW, 256, 0, 0));
        check.refused("no kind, and there are 40", () -> x.policy(15, 0, 0, 0));
        check.refused("no POLICY, and there are 40", () -> x.policy(Kinds.AUDIT, 40, 0, 0));
        check.refused("used and none such, and there are 40", () -> x.policy(Kinds.BOTH, 0, 40, 0));
        check.refused("LEVEL 8 and none such, and there are 40", () -> x.policy(Kinds.BOTH, 6, 40, 0));
        check.forbidden("used, and there are 40", () -> x.policy(Kinds.AUDIT, 0, 0, 0));
        check.forbidden("the same, and there are 40", () -> x.policy(Kinds.BOTH, 39, 39, 0));
        check.forbidden("used, LEVEL 8, and there are 40", () -> x.policy(Kinds.BOTH, 6, 0, 0));
        check.stopped("LEVEL 8, and there are 40", () -> x.policy(Kinds.AUDIT, 6, 0, 0));
        check.tooDeep("there are 40", () -> x.policy(Kinds.AUDIT, 39, 0, 0));
        check.tooDeep("there are 40", () -> x.policy(Kinds.ALLOW, 1, 0, 0));
    }
}
