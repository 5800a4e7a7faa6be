/** What accepting changes: the terms behind promise 5. */
public final class AcceptTest {
    public static void main(String[] args) {
        Check check = new Check();
        checkBoth(check);
        checkEither(check);
        checkFirst(check);
        checkOverrule(check);
        checkOnly(check);
        checkBehindTurn(check);
        checkAskedAgainWithoutNoting(check);
        checkIrrelevantOperands(check);
        checkStrongOperandsBehindTurn(check);
        checkEntriesThatAreNoStates(check);
        checkSpentPreludes(check);
        checkEitherOfPreludeAndQuota(check);
        checkNothingIsAccepted(check);
        check.end();
    }

    private static void states(Check check, String when, PolicyMonitor x, int first, int second) {
        check.is(when + ": state(0)", x.state(0), first);
        check.is(when + ": state(1)", x.state(1), second);
    }

    /** Quotas 0 and 1, and policy 2 of the kind over them. */
    private static PolicyMonitor twoQuotas(int kind, int setA, int limitA, int setB, int limitB) {
        PolicyMonitor x = new PolicyMonitor();
        x.policy(Kinds.QUOTA, setA, limitA, 0);
        x.policy(Kinds.QUOTA, setB, limitB, 0);
        x.policy(kind, 0, 1, 0);
        x.install(2);
        return x;
    }

    private static void checkBoth(Check check) {
        PolicyMonitor x = twoQuotas(Kinds.BOTH, 3, 2, 5, 9);
        x.act(0, 1);
        states(check, "BOTH, both sets", x, 1, 1);
        x.act(1, 1);
        states(check, "BOTH, a's set", x, 2, 1);
        check.forbidden("BOTH, a's quota", () -> x.act(0, 1));
        states(check, "BOTH, forbidden", x, 2, 1);
        x.act(2, 1);
        states(check, "BOTH, b's set", x, 2, 2);
        x.act(3, 1);
        states(check, "BOTH, no set", x, 2, 2);
    }

    private static void checkEither(Check check) {
        PolicyMonitor x = twoQuotas(Kinds.EITHER, 3, 1, 5, 1);
        x.act(0, 1);
        states(check, "EITHER, the same kind", x, 1, 0);
        x.act(0, 1);
        states(check, "EITHER, b is milder", x, 1, 1);
        check.forbidden("EITHER, both forbid", () -> x.act(0, 1));
        states(check, "EITHER, forbidden", x, 1, 1);
        x.act(3, 1);
        states(check, "EITHER, both irrelevant", x, 1, 1);
        PolicyMonitor y = twoQuotas(Kinds.EITHER, 2, 9, 5, 9);
        y.act(0, 1);
        states(check, "EITHER, a irrelevant", y, 0, 1);
        y.act(1, 1);
        states(check, "EITHER, b irrelevant", y, 1, 1);
    }

    private static void checkFirst(Check check) {
        PolicyMonitor x = twoQuotas(Kinds.FIRST, 3, 2, 5, 9);
        x.act(0, 1);
        states(check, "FIRST, a's", x, 1, 0);
        x.act(2, 1);
        states(check, "FIRST, b's", x, 1, 1);
        x.act(0, 1);
        check.forbidden("FIRST, a's quota", () -> x.act(0, 1));
        states(check, "FIRST, forbidden", x, 2, 1);
    }

    private static void checkOverrule(Check check) {
        PolicyMonitor x = twoQuotas(Kinds.OVERRULE, 3, 9, 5, 9);
        x.act(0, 1);
        states(check, "OVERRULE, a's OK is not taken", x, 0, 1);
        x.act(1, 1);
        states(check, "OVERRULE, b is irrelevant", x, 0, 1);
        check.is("OVERRULE, b is irrelevant", x.ask(1, 1), Kinds.IRRELEVANT);
    }

    private static void checkOnly(Check check) {
        PolicyMonitor x = new PolicyMonitor();
        x.policy(Kinds.QUOTA, 3, 9, 0);
        x.policy(Kinds.ONLY, 2, 0, 0);
        x.install(1);
        x.act(0, 1);
        check.is("ONLY, not in its set", x.state(0), 0);
        x.act(1, 1);
        check.is("ONLY, in its set", x.state(0), 1);
    }

    private static void checkBehindTurn(Check check) {
        PolicyMonitor x = new PolicyMonitor();
        x.table(0, 0, 1, 3);
        x.policy(Kinds.QUOTA, 1, 0, 0);
        x.policy(Kinds.TURN, 0, Kinds.EXCEPTION, Kinds.OK);
        x.policy(Kinds.AUTOMATON, 0, 0, 0);
        x.policy(Kinds.TURN, 2, Kinds.OK, Kinds.IRRELEVANT);
        x.policy(Kinds.BOTH, 1, 3, 0);
        x.install(4);
        x.act(0, 1);
        x.act(0, 1);
        check.is("a quota goes up beyond its limit behind TURN", x.state(0), 2);
        check.is("an automaton behind TURN", x.state(2), 0);
        x.act(1, 1);
        check.is("an automaton behind TURN steps", x.state(2), 3);
    }

    private static void checkAskedAgainWithoutNoting(Check check) {
        for (int kind = Kinds.BOTH; kind <= Kinds.OVERRULE; kind++) {
            PolicyMonitor x = new PolicyMonitor();
            x.policy(Kinds.QUOTA, 1, 9, 0);
            x.policy(Kinds.AUDIT, 0, 0, 0);
            x.policy(Kinds.ALLOW, 2, 0, 0);
            x.policy(kind, 1, 2, 0);
            x.policy(Kinds.ALLOW, 4, 0, 0);
            x.policy(kind, 3, 4, 0);
            x.install(5);
            x.act(0, 1);
            check.is("kind " + kind + ": noted once", x.count(1), 1);
            check.is("kind " + kind + ": the count", x.state(0), kind == Kinds.OVERRULE ? 0 : 1);
        }
    }

    /** Quotas 0 and 1 for sort 0, each behind a TURN from one kind to another, and policy 4 of the kind over them. */
    private static PolicyMonitor turnedQuotas(int kind, int limitA, int toA, int limitB, int toB) {
        PolicyMonitor x = new PolicyMonitor();
        x.policy(Kinds.QUOTA, 1, limitA, 0);
        x.policy(Kinds.QUOTA, 1, limitB, 0);
        x.policy(Kinds.TURN, 0, limitA == 0 ? Kinds.EXCEPTION : Kinds.OK, toA);
        x.policy(Kinds.TURN, 1, limitB == 0 ? Kinds.EXCEPTION : Kinds.OK, toB);
        x.policy(kind, 2, 3, 0);
        x.install(4);
        return x;
    }

    /** Behind a TURN to IRRELEVANT a quota still shows by its COUNT who accepted. */
    private static void checkIrrelevantOperands(Check check) {
        int[] kinds = {Kinds.BOTH, Kinds.EITHER, Kinds.FIRST, Kinds.OVERRULE};
        int[][] bothIrrelevant = {{1, 1}, {1, 0}, {0, 1}, {0, 1}};
        int[][] aIrrelevant = {{1, 1}, {0, 1}, {0, 1}, {0, 1}};
        int[][] bIrrelevant = {{1, 1}, {1, 0}, {1, 0}, {0, 1}};
        for (int i = 0; i < kinds.length; i++) {
            PolicyMonitor x = turnedQuotas(kinds[i], 9, Kinds.IRRELEVANT, 9, Kinds.IRRELEVANT);
            x.act(0, 1);
            states(check, kinds[i] + ", both irrelevant", x, bothIrrelevant[i][0], bothIrrelevant[i][1]);
            PolicyMonitor y = turnedQuotas(kinds[i], 9, Kinds.IRRELEVANT, 9, Kinds.OK);
            y.act(0, 1);
            states(check, kinds[i] + ", a irrelevant", y, aIrrelevant[i][0], aIrrelevant[i][1]);
            PolicyMonitor z = turnedQuotas(kinds[i], 9, Kinds.OK, 9, Kinds.IRRELEVANT);
            z.act(0, 1);
            states(check, kinds[i] + ", b irrelevant", z, bIrrelevant[i][0], bIrrelevant[i][1]);
        }
    }

    /** A TURN above the pair lets the action be done though the pair suggests an EXCEPTION. */
    private static void checkStrongOperandsBehindTurn(Check check) {
        int[] kinds = {Kinds.BOTH, Kinds.EITHER, Kinds.FIRST, Kinds.OVERRULE};
        int[][] bothForbid = {{1, 1}, {1, 0}, {1, 0}, {1, 0}};
        int[][] aForbids = {{1, 1}, {0, 1}, {1, 0}, {1, 0}};
        int[][] bForbids = {{1, 1}, {1, 0}, {1, 0}, {0, 1}};
        int[][] limits = {{0, 0}, {0, 9}, {9, 0}};
        int[][][] due = {bothForbid, aForbids, bForbids};
        for (int i = 0; i < kinds.length; i++) {
            for (int j = 0; j < limits.length; j++) {
                PolicyMonitor x = twoQuotas(kinds[i], 1, limits[j][0], 1, limits[j][1]);
                x.policy(Kinds.TURN, 2, Kinds.EXCEPTION, Kinds.OK);
                x.install(3);
                x.act(0, 1);
                states(check, kinds[i] + " of quotas " + limits[j][0] + ", " + limits[j][1], x, due[j][i][0],
                        due[j][i][1]);
            }
        }
    }

    /** 'the STATE becomes the next one if that is 0 .. 3'. */
    private static void checkEntriesThatAreNoStates(Check check) {
        for (int next = 0; next <= 5; next++) {
            PolicyMonitor x = new PolicyMonitor();
            x.table(0, 0, 0, 2);
            x.table(0, 2, 1, next);
            x.policy(Kinds.AUTOMATON, 0, 0, 0);
            x.policy(Kinds.TURN, 0, Kinds.EXCEPTION, Kinds.OK);
            x.install(1);
            x.act(0, 1);
            x.act(1, 1);
            check.is("the STATE after the entry " + next, x.state(0), next <= 3 ? next : 2);
        }
    }

    /** A PRELUDE that is SPENT does not keep b of FIRST from accepting. */
    private static void checkSpentPreludes(Check check) {
        PolicyMonitor x = new PolicyMonitor();
        x.policy(Kinds.PRELUDE, 1, 1, 5);
        x.policy(Kinds.QUOTA, 1, 2, 0);
        x.policy(Kinds.FIRST, 0, 1, 0);
        x.install(2);
        x.act(0, 1);
        check.is("after one act", x.state(1), 1);
        x.act(0, 1);
        check.is("after two acts", x.state(1), 2);
        check.forbidden("the third act", () -> x.act(0, 1));
        check.is("after three acts", x.state(1), 2);
        check.is("the INSERT was DONE each time", x.total(1), 15);
        check.is("total(0)", x.total(0), 2);
    }

    /** OK is milder than an INSERT, and an INSERT milder than an EXCEPTION. */
    private static void checkEitherOfPreludeAndQuota(Check check) {
        PolicyMonitor x = new PolicyMonitor();
        x.policy(Kinds.PRELUDE, 1, 1, 5);
        x.policy(Kinds.QUOTA, 1, 1, 0);
        x.policy(Kinds.EITHER, 0, 1, 0);
        x.install(2);
        check.gives("OK is milder", () -> x.act(0, 1), 1);
        check.is("nothing was put before it", x.total(1), 0);
        check.is("b accepted", x.state(1), 1);
        check.is("the INSERT is milder", x.ask(0, 1), Kinds.INSERT);
        check.forbidden("once it is SPENT, b's is taken", () -> x.act(0, 1));
        check.is("the INSERT was DONE", x.total(1), 5);
        check.is("the COUNT", x.state(1), 1);
    }

    private static void checkNothingIsAccepted(Check check) {
        int[] others = {Kinds.REPLACE, Kinds.EXCEPTION, Kinds.HALT};
        for (int other : others) {
            PolicyMonitor x = new PolicyMonitor();
            x.policy(Kinds.QUOTA, 1, 9, 0);
            Kinds.suggesting(x, other, 1, 5);
            x.policy(Kinds.BOTH, 0, 1, 0);
            x.install(2);
            try {
                x.act(0, 1);
            } catch (RuntimeException e) {
                // Only the count matters here.
            }
            check.is("nothing is accepted for " + other, x.state(0), 0);
            check.is("nothing is done for " + other, x.total(0), 0);
        }
    }
}
