/** Promise 10. */
public final class NotedTest {
    public static void main(String[] args) {
        Check check = new Check();
        checkKept(check);
        checkKinds(check);
        checkNested(check);
        checkMoreThanAreKept(check);
        checkAskingNotesNothing(check);
        check.end();
    }

    /** More numbers noted in one act than are kept. */
    private static void checkMoreThanAreKept(Check check) {
        PolicyMonitor x = new PolicyMonitor();
        int[] audits = new int[10];
        for (int i = 0; i < audits.length; i++) {
            int leaf = x.policy(i % 2 == 0 ? Kinds.ALLOW : Kinds.RANGE, 1, 0, 9);
            audits[i] = x.policy(Kinds.AUDIT, leaf, 0, 0);
        }
        int joined = Kinds.join(x, Kinds.BOTH, audits);
        int prelude = x.policy(Kinds.PRELUDE, 1, 0, 20);
        x.install(x.policy(Kinds.BOTH, joined, prelude, 0));
        // Asked once for the INSERT, once for its ACTION, which is out of the ranges.
        check.forbidden("act(0, 5)", () -> x.act(0, 5));
        check.is("count(1)", x.count(1), 20);
        for (int k = 0; k < 16; k++) {
            boolean inner = k < 10;
            boolean range = k % 2 == 0;
            check.is("noted(" + k + ")", x.noted(k), inner && range ? 64 : 16);
        }
        check.is("noted(16)", x.noted(16), -1);
    }

    /** Only ACTING notes: ask, detail and the asking again of ACCEPTING do not. */
    private static void checkAskingNotesNothing(Check check) {
        PolicyMonitor x = new PolicyMonitor();
        x.policy(Kinds.ANSWER, 1, 4, 0);
        x.policy(Kinds.AUDIT, 0, 0, 0);
        x.policy(Kinds.ALLOW, 2, 0, 0);
        x.policy(Kinds.AUDIT, 2, 0, 0);
        x.policy(Kinds.FIRST, 1, 3, 0);
        x.install(4);
        x.ask(0, 1);
        x.ask(1, 1);
        x.detail(0, 1, 2);
        check.forbidden("detail(1, 1, 0)", () -> x.detail(1, 1, 0));
        check.is("noted(0)", x.noted(0), -1);
        x.act(1, 1);
        check.is("noted(0)", x.noted(0), 17);
        check.is("noted(1)", x.noted(1), -1);
        check.is("count(1)", x.count(1), 1);
    }

    /** '0 being the newest; the last 16 are kept; -1 if there is none.' */
    private static void checkKept(Check check) {
        PolicyMonitor x = new PolicyMonitor();
        x.policy(Kinds.ALLOW, Kinds.ALL, 0, 0);
        x.policy(Kinds.AUDIT, 0, 0, 0);
        x.install(1);
        int[] none = {Integer.MIN_VALUE, -16, -1, 16, 17, 32, Integer.MAX_VALUE};
        for (int k = 0; k < 16; k++) {
            check.is("noted(" + k + ") of none", x.noted(k), -1);
        }
        for (int made = 1; made <= 50; made++) {
            x.act(made % 8, 0);
            check.is("count(1)", x.count(1), made);
            if (made == 1 || made >= 15 && made <= 18 || made == 50) {
                for (int k = 0; k < 16; k++) {
                    int due = k < made ? 16 + (made - k) % 8 : -1;
                    check.is("noted(" + k + ") of " + made, x.noted(k), due);
                }
                for (int k : none) {
                    check.gives("noted(" + k + ")", () -> x.noted(k), -1);
                }
            }
        }
        x.install(0);
        check.is("noted(0) after install", x.noted(0), 16 + 50 % 8);
    }

    private static void checkKinds(Check check) {
        for (int kind = 0; kind <= 5; kind++) {
            PolicyMonitor x = new PolicyMonitor();
            Kinds.suggesting(x, kind, 1 << 6, 5);
            x.policy(Kinds.AUDIT, 0, 0, 0);
            x.install(1);
            try {
                x.act(6, 1);
            } catch (RuntimeException e) {
                // Only the note matters here.
            }
            check.is("the note for " + kind, x.noted(0), kind == 0 ? -1 : 16 * kind + 6);
            check.is("one note for " + kind, x.count(1), kind == 0 ? 0 : 1);
        }
    }

    private static void checkNested(Check check) {
        PolicyMonitor x = new PolicyMonitor();
        x.policy(Kinds.FORBID, 2, 0, 0);
        x.policy(Kinds.AUDIT, 0, 0, 0);
        x.policy(Kinds.TURN, 1, Kinds.EXCEPTION, Kinds.OK);
        x.policy(Kinds.AUDIT, 2, 0, 0);
        x.policy(Kinds.TURN, 3, Kinds.OK, Kinds.IRRELEVANT);
        x.policy(Kinds.AUDIT, 4, 0, 0);
        x.install(5);
        check.gives("act(1, 3)", () -> x.act(1, 3), 3);
        check.is("noted(0), the outer one", x.noted(0), 17);
        check.is("noted(1), the inner one", x.noted(1), 65);
        check.is("noted(2)", x.noted(2), -1);
    }
}
