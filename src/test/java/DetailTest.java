/** Promise 7. */
public final class DetailTest {
    public static void main(String[] args) {
        Check check = new Check();
        checkRanges(check);
        checkDetails(check);
        checkOtherKinds(check);
        check.end();
    }

    private static void checkRanges(Check check) {
        PolicyMonitor x = new PolicyMonitor();
        int[] sorts = {Integer.MIN_VALUE, -1, 8, Integer.MAX_VALUE};
        int[] whats = {Integer.MIN_VALUE, -1, 3, Integer.MAX_VALUE};
        for (int round = 0; round < 2; round++) {
            for (int sort : sorts) {
                check.refused("detail(" + sort + ", 0, 0)", () -> x.detail(sort, 0, 0));
            }
            for (int what : whats) {
                check.refused("detail(0, 0, " + what + ")", () -> x.detail(0, 0, what));
            }
            if (round == 0) {
                for (int what = 0; what < 3; what++) {
                    int w = what;
                    check.forbidden("detail, none installed", () -> x.detail(0, 0, w));
                }
                x.policy(Kinds.PRELUDE, 1, 3, 4);
                x.install(0);
            }
        }
    }

    private static void checkDetails(Check check) {
        PolicyMonitor x = new PolicyMonitor();
        x.policy(Kinds.ALLOW, 4, 0, 0);
        x.policy(Kinds.PRELUDE, 1, 6, -70);
        x.policy(Kinds.ANSWER, 2, Integer.MIN_VALUE, 12);
        x.policy(Kinds.BOTH, 1, 2, 0);
        x.policy(Kinds.AUDIT, 3, 0, 0);
        x.install(4);
        for (int i = 0; i < 2; i++) {
            check.gives("the INSERT's sort", () -> x.detail(0, 9, 0), 6);
            check.gives("the INSERT's argument", () -> x.detail(0, 9, 1), -70);
            check.forbidden("an INSERT has no value", () -> x.detail(0, 9, 2));
            check.gives("the REPLACE's value", () -> x.detail(1, 9, 2), Integer.MIN_VALUE);
            check.forbidden("a REPLACE has no sort", () -> x.detail(1, 9, 0));
            check.forbidden("a REPLACE has no argument", () -> x.detail(1, 9, 1));
        }
        check.is("nothing is noted", x.count(1), 0);
        check.is("nothing is replaced", x.count(3), 0);
        check.is("no act threw", x.count(4), 0);
    }

    private static void checkOtherKinds(Check check) {
        int[] others = {Kinds.IRRELEVANT, Kinds.OK, Kinds.EXCEPTION, Kinds.HALT};
        for (int kind : others) {
            PolicyMonitor x = new PolicyMonitor();
            Kinds.suggesting(x, kind, 1, 0);
            x.install(0);
            for (int what = 0; what < 3; what++) {
                int w = what;
                check.forbidden("detail " + what + " of kind " + kind, () -> x.detail(0, 0, w));
            }
            check.is("it is not stopped", x.count(5), 0);
        }
    }
}
