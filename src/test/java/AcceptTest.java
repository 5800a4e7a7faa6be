/** What accepting changes: the terms behind promise 5. */
public final class AcceptTest {
    public static void main(String[] args) {
        Check check = new Check();
        checkBoth(check);
        checkEither(check);
        checkFirst(check);
        checkOverrule(check);
        checkOnly(check);
        checkBehindTurn(check);
        checkAskedAgainWithoutNoting(check);
        checkNothingIsAccepted(check);
        check.end();
    }

    private static void states(Check check, String when, PolicyMonitor x, int first, int second) {
        check.is(when + ": state(0)", x.state(0), first);
        check.is(when + ": state(1)", x.state(1), second);
    }

    /** Quotas 0 and 1, and policy 2 of the kind over them. */
    private static PolicyMonitor twoQuotas(int kind, int setA, int limitA, int setB, int limitB) {
        PolicyMonitor x = new PolicyMonitor();
        x.policy(Kinds.QUOTA, setA, limitA, 0);
        x.policy(Kinds.QUOTA, setB, limitB, 0);
        x.policy(kind, 0, 1, 0);
        x.install(2);
        return x;
    }

    private static void checkBoth(Check check) {
        PolicyMonitor x = twoQuotas(Kinds.BOTH, 3, 2, 5, 9);
        x.act(0, 1);
        states(check, "BOTH, both sets", x, 1, 1);
        x.act(1, 1);
        states(check, "BOTH, a's set", x, 2, 1);
        check.forbidden("BOTH, a's quota", () -> x.act(0, 1));
        states(check, "BOTH, forbidden", x, 2, 1);
        x.act(2, 1);
        states(check, "BOTH, b's set", x, 2, 2);
        x.act(3, 1);
        states(check, "BOTH, no set", x, 2, 2);
    }

    private static void checkEither(Check check) {
        PolicyMonitor x = twoQuotas(Kinds.EITHER, 3, 1, 5, 1);
        x.act(0, 1);
        states(check, "EITHER, the same kind", x, 1, 0);
        x.act(0, 1);
        states(check, "EITHER, b is milder", x, 1, 1);
        check.forbidden("EITHER, both forbid", () -> x.act(0, 1));
        states(check, "EITHER, forbidden", x, 1, 1);
        x.act(3, 1);
        states(check, "EITHER, both irrelevant", x, 1, 1);
        PolicyMonitor y = twoQuotas(Kinds.EITHER, 2, 9, 5, 9);
        y.act(0, 1);
        states(check, "EITHER, a irrelevant", y, 0, 1);
        y.act(1, 1);
        states(check, "EITHER, b irrelevant", y, 1, 1);
    }

    private static void checkFirst(Check check) {
        PolicyMonitor x = twoQuotas(Kinds.FIRST, 3, 2, 5, 9);
        x.act(0, 1);
        states(check, "FIRST, a's", x, 1, 0);
        x.act(2, 1);
        states(check, "FIRST, b's", x, 1, 1);
        x.act(0, 1);
        check.forbidden("FIRST, a's quota", () -> x.act(0, 1));
        states(check, "FIRST, forbidden", x, 2, 1);
    }

    private static void checkOverrule(Check check) {
        PolicyMonitor x = twoQuotas(Kinds.OVERRULE, 3, 9, 5, 9);
        x.act(0, 1);
        states(check, "OVERRULE, a's OK is not taken", x, 0, 1);
        x.act(1, 1);
        states(check, "OVERRULE, b is irrelevant", x, 0, 1);
        check.is("OVERRULE, b is irrelevant", x.ask(1, 1), Kinds.IRRELEVANT);
    }

    private static void checkOnly(Check check) {
        PolicyMonitor x = new PolicyMonitor();
        x.policy(Kinds.QUOTA, 3, 9, 0);
        x.policy(Kinds.ONLY, 2, 0, 0);
        x.install(1);
        x.act(0, 1);
        check.is("ONLY, not in its set", x.state(0), 0);
        x.act(1, 1);
        check.is("ONLY, in its set", x.state(0), 1);
    }

    private static void checkBehindTurn(Check check) {
        PolicyMonitor x = new PolicyMonitor();
        x.table(0, 0, 1, 3);
        x.policy(Kinds.QUOTA, 1, 0, 0);
        x.policy(Kinds.TURN, 0, Kinds.EXCEPTION, Kinds.OK);
        x.policy(Kinds.AUTOMATON, 0, 0, 0);
        x.policy(Kinds.TURN, 2, Kinds.OK, Kinds.IRRELEVANT);
        x.policy(Kinds.BOTH, 1, 3, 0);
        x.install(4);
        x.act(0, 1);
        x.act(0, 1);
        check.is("a quota goes up beyond its limit behind TURN", x.state(0), 2);
        check.is("an automaton behind TURN", x.state(2), 0);
        x.act(1, 1);
        check.is("an automaton behind TURN steps", x.state(2), 3);
    }

    private static void checkAskedAgainWithoutNoting(Check check) {
        for (int kind = Kinds.BOTH; kind <= Kinds.OVERRULE; kind++) {
            PolicyMonitor x = new PolicyMonitor();
            x.policy(Kinds.QUOTA, 1, 9, 0);
            x.policy(Kinds.AUDIT, 0, 0, 0);
            x.policy(Kinds.ALLOW, 2, 0, 0);
            x.policy(kind, 1, 2, 0);
            x.policy(Kinds.ALLOW, 4, 0, 0);
            x.policy(kind, 3, 4, 0);
            x.install(5);
            x.act(0, 1);
            check.is("kind " + kind + ": noted once", x.count(1), 1);
            check.is("kind " + kind + ": the count", x.state(0), kind == Kinds.OVERRULE ? 0 : 1);
        }
    }

    private static void checkNothingIsAccepted(Check check) {
        int[] others = {Kinds.REPLACE, Kinds.EXCEPTION, Kinds.HALT};
        for (int other : others) {
            PolicyMonitor x = new PolicyMonitor();
            x.policy(Kinds.QUOTA, 1, 9, 0);
            Kinds.suggesting(x, other, 1, 5);
            x.policy(Kinds.BOTH, 0, 1, 0);
            x.install(2);
            try {
                x.act(0, 1);
            } catch (RuntimeException e) {
                // Only the count matters here.
            }
            check.is("nothing is accepted for " + other, x.state(0), 0);
            check.is("nothing is done for " + other, x.total(0), 0);
        }
    }
}
