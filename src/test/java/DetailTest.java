/** Promise 7. */
public final class DetailTest {
    public static void main(String[] args) {
        Check check = new Check();
        checkRanges(check);
        checkDetails(check);
        checkOtherKinds(check);
        checkEnds(check);
        checkNothingIsSpent(check);
        checkArgumentBeforeState(check);
        check.end();
    }

    /** The least and the greatest numbers that an INSERT and a REPLACE may have. */
    private static void checkEnds(Check check) {
        int[] numbers = {Integer.MIN_VALUE, -1, 0, 1, Integer.MAX_VALUE};
        for (int number : numbers) {
            for (int sort = 0; sort < 8; sort++) {
                int s = sort;
                PolicyMonitor x = new PolicyMonitor();
                x.policy(Kinds.PRELUDE, 1 << sort, 7 - sort, number);
                x.policy(Kinds.ANSWER, 1 << sort, number, 3);
                x.install(0);
                check.gives("the INSERT's sort", () -> x.detail(s, 0, 0), 7 - sort);
                check.gives("the INSERT's argument", () -> x.detail(s, 0, 1), number);
                x.install(1);
                check.gives("the REPLACE's value", () -> x.detail(s, 0, 2), number);
            }
        }
    }

    private static void checkNothingIsSpent(Check check) {
        PolicyMonitor x = new PolicyMonitor();
        x.policy(Kinds.PRELUDE, 1, 1, 5);
        x.install(0);
        for (int round = 1; round <= 2; round++) {
            check.gives("detail(0, 0, 1)", () -> x.detail(0, 0, 1), 5);
            check.gives("detail(0, 0, 0)", () -> x.detail(0, 0, 0), 1);
            x.act(0, 1);
            check.is("total(1)", x.total(1), 5 * round);
        }
    }

    /** IllegalArgumentException stands first: no such sort or what, though the SUGGESTION would be of another kind. */
    private static void checkArgumentBeforeState(Check check) {
        PolicyMonitor x = new PolicyMonitor();
        x.policy(Kinds.ALLOW, Kinds.ALL, 0, 0);
        for (int round = 0; round < 2; round++) {
            check.refused("detail(8, 0, 0)", () -> x.detail(8, 0, 0));
            check.refused("detail(-1, 0, 2)", () -> x.detail(-1, 0, 2));
            check.refused("detail(0, 0, 3)", () -> x.detail(0, 0, 3));
            check.refused("detail(7, 0, -1)", () -> x.detail(7, 0, -1));
            check.refused("detail(8, 0, 3)", () -> x.detail(8, 0, 3));
            for (int what = 0; what < 3; what++) {
                int w = what;
                check.forbidden("detail(0, 0, " + what + ")", () -> x.detail(0, 0, w));
                check.forbidden("detail(7, 0, " + what + ")", () -> x.detail(7, 0, w));
            }
            x.install(0);
        }
        check.is("count(4) counts act calls alone", x.count(4), 0);
    }

    private static void checkRanges(Check check) {
        PolicyMonitor x = new PolicyMonitor();
        int[] sorts = {Integer.MIN_VALUE, -1, 8, Integer.MAX_VALUE};
        int[] whats = {Integer.MIN_VALUE, -1, 3, Integer.MAX_VALUE};
        for (int round = 0; round < 2; round++) {
            for (int sort : sorts) {
                check.refused("detail(" + sort + ", 0, 0)", () -> x.detail(sort, 0, 0));
            }
            for (int what : whats) {
                check.refused("detail(0, 0, " + what + ")", () -> x.detail(0, 0, what));
            }
            if (round == 0) {
                for (int what = 0; what < 3; what++) {
                    int w = what;
                    check.forbidden("detail, none installed", () -> x.detail(0, 0, w));
                }
                x.policy(Kinds.PRELUDE, 1, 3, 4);
                x.install(0);
            }
        }
    }

    private static void checkDetails(Check check) {
        PolicyMonitor x = new PolicyMonitor();
        x.policy(Kinds.ALLOW, 4, 0, 0);
        x.policy(Kinds.PRELUDE, 1, 6, -70);
        x.policy(Kinds.ANSWER, 2, Integer.MIN_VALUE, 12);
        x.policy(Kinds.BOTH, 1, 2, 0);
        x.policy(Kinds.AUDIT, 3, 0, 0);
        x.install(4);
        for (int i = 0; i < 2; i++) {
            check.gives("the INSERT's sort", () -> x.detail(0, 9, 0), 6);
            check.gives("the INSERT's argument", () -> x.detail(0, 9, 1), -70);
            check.forbidden("an INSERT has no value", () -> x.detail(0, 9, 2));
            check.gives("the REPLACE's value", () -> x.detail(1, 9, 2), Integer.MIN_VALUE);
            check.forbidden("a REPLACE has no sort", () -> x.detail(1, 9, 0));
            check.forbidden("a REPLACE has no argument", () -> x.detail(1, 9, 1));
        }
        check.is("nothing is noted", x.count(1), 0);
        check.is("nothing is replaced", x.count(3), 0);
        check.is("no act threw", x.count(4), 0);
    }

    private static void checkOtherKinds(Check check) {
        int[] others = {Kinds.IRRELEVANT, Kinds.OK, Kinds.EXCEPTION, Kinds.HALT};
        for (int kind : others) {
            PolicyMonitor x = new PolicyMonitor();
            Kinds.suggesting(x, kind, 1, 0);
            x.install(0);
            for (int what = 0; what < 3; what++) {
                int w = what;
                check.forbidden("detail " + what + " of kind " + kind, () -> x.detail(0, 0, w));
            }
            check.is("it is not stopped", x.count(5), 0);
        }
    }
}
