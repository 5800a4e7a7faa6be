/** Promise 5. */
public final class ActTest {
    public static void main(String[] args) {
        Check check = new Check();
        checkWithoutPolicy(check);
        checkOutcomes(check);
        checkInserts(check);
        checkDepth(check);
        checkEndsInside(check);
        checkManyPreludes(check);
        check.end();
    }

    private static void checkWithoutPolicy(Check check) {
        PolicyMonitor x = new PolicyMonitor();
        int[] wrong = {Integer.MIN_VALUE, -1, 8, Integer.MAX_VALUE};
        for (int sort : wrong) {
            check.refused("act(" + sort + ", 0)", () -> x.act(sort, 0));
        }
        check.is("count(4)", x.count(4), 0);
        check.gives("act(7, max)", () -> x.act(7, Integer.MAX_VALUE), Integer.MAX_VALUE);
        check.gives("act(7, 1) wraps", () -> x.act(7, 1), Integer.MIN_VALUE);
        check.gives("act(0, -4)", () -> x.act(0, -4), -4);
        x.policy(Kinds.FORBID, Kinds.ALL, 0, 0);
        check.gives("act(0, 1), none installed", () -> x.act(0, 1), -3);
    }

    private static void checkOutcomes(Check check) {
        PolicyMonitor x = new PolicyMonitor();
        x.policy(Kinds.ALLOW, 1, 0, 0);
        x.policy(Kinds.FORBID, 2, 0, 0);
        x.policy(Kinds.STOP, 4, 0, 0);
        x.policy(Kinds.ANSWER, 8, -99, 0);
        x.policy(Kinds.FIRST, 0, 1, 0);
        x.policy(Kinds.FIRST, 2, 3, 0);
        x.policy(Kinds.FIRST, 4, 5, 0);
        x.install(6);
        check.gives("OK", () -> x.act(0, 2), 2);
        check.gives("IRRELEVANT", () -> x.act(4, 3), 3);
        check.forbidden("EXCEPTION", () -> x.act(1, 3));
        check.gives("REPLACE", () -> x.act(3, 3), -99);
        check.is("total(3)", x.total(3), 0);
        check.is("total(1)", x.total(1), 0);
        check.gives("OK again", () -> x.act(0, 2), 4);
        check.stopped("HALT", () -> x.act(2, 1));
        check.stopped("OK when stopped", () -> x.act(0, 1));
        check.stopped("REPLACE when stopped", () -> x.act(3, 1));
        check.stopped("EXCEPTION when stopped", () -> x.act(1, 1));
        check.refused("no such sort when stopped", () -> x.act(8, 1));
        check.is("total(0)", x.total(0), 4);
        check.is("ask when stopped", x.ask(0, 1), Kinds.OK);
        check.is("count(4)", x.count(4), 5);
        x.install(6);
        check.gives("OK after install", () -> x.act(0, 1), 5);
    }

    private static void checkInserts(Check check) {
        PolicyMonitor x = new PolicyMonitor();
        x.policy(Kinds.PRELUDE, 1, 0, 100);
        x.policy(Kinds.QUOTA, 1, 9, 0);
        x.policy(Kinds.BOTH, 0, 1, 0);
        x.install(2);
        check.gives("an INSERT of its own sort", () -> x.act(0, 1), 101);
        check.is("both were accepted", x.state(1), 2);
        check.is("no PRELUDE is spent", x.ask(0, 1), Kinds.INSERT);
        check.gives("again", () -> x.act(0, 1), 202);
        PolicyMonitor y = new PolicyMonitor();
        y.policy(Kinds.PRELUDE, 1, 1, 10);
        y.policy(Kinds.ANSWER, 2, 55, 0);
        y.policy(Kinds.BOTH, 0, 1, 0);
        y.install(2);
        check.gives("the INSERT's action is replaced", () -> y.act(0, 4), 4);
        check.is("total(1)", y.total(1), 0);
        check.is("count(3)", y.count(3), 1);
        PolicyMonitor z = new PolicyMonitor();
        z.policy(Kinds.PRELUDE, 1, 1, 10);
        z.policy(Kinds.ANSWER, 1, 55, 0);
        z.policy(Kinds.FIRST, 0, 1, 0);
        z.install(2);
        check.gives("an INSERT, then a REPLACE", () -> z.act(0, 4), 55);
        check.is("total(1)", z.total(1), 10);
        check.is("total(0)", z.total(0), 0);
    }

    /** PRELUDES by which each sort below 7 puts the next one before it. */
    private static PolicyMonitor chain(int last) {
        PolicyMonitor x = new PolicyMonitor();
        int top = x.policy(Kinds.PRELUDE, 1, 1, 1);
        for (int sort = 1; sort < last; sort++) {
            int next = x.policy(Kinds.PRELUDE, 1 << sort, sort + 1, 1);
            top = x.policy(Kinds.FIRST, top, next, 0);
        }
        x.install(top);
        return x;
    }

    private static void checkDepth(Check check) {
        PolicyMonitor fits = chain(4);
        check.gives("depth 5", () -> fits.act(0, 1), 1);
        check.is("all were done", fits.count(2), 5);
        PolicyMonitor deep = chain(5);
        check.tooDeep("depth 6", () -> deep.act(0, 1));
        check.is("nothing was done", deep.count(2), 0);
        check.is("count(4)", deep.count(4), 1);
        check.is("count(5)", deep.count(5), 0);
        for (int sort = 0; sort < 5; sort++) {
            check.is("no PRELUDE is spent after TOO DEEP", deep.ask(sort, 0), Kinds.INSERT);
        }
        check.gives("from 1 on", () -> deep.act(1, 1), 1);
        check.tooDeep("depth 6 again", () -> deep.act(0, 1));
    }

    private static void checkEndsInside(Check check) {
        int[] ends = {Kinds.EXCEPTION, Kinds.HALT};
        for (int end : ends) {
            PolicyMonitor x = new PolicyMonitor();
            x.policy(Kinds.PRELUDE, 1, 1, 10);
            x.policy(Kinds.PRELUDE, 1, 2, 20);
            x.policy(Kinds.FIRST, 0, 1, 0);
            Kinds.suggesting(x, end, 4, 0);
            x.policy(Kinds.FIRST, 2, 3, 0);
            x.policy(Kinds.AUDIT, 4, 0, 0);
            x.install(5);
            check.fails("an end inside", end == Kinds.HALT ? UnsupportedOperationException.class
                    : IllegalStateException.class, () -> x.act(0, 1));
            check.is("what was done stays", x.total(1), 10);
            check.is("what was not done", x.total(0) + x.total(2), 0);
            check.is("count(2)", x.count(2), 1);
            check.is("what was noted stays", x.count(1), 3);
            check.is("noted(0)", x.noted(0), 16 * end + 2);
            check.is("noted(1)", x.noted(1), 32);
            check.is("noted(2)", x.noted(2), 32);
            check.is("count(5)", x.count(5), end == Kinds.HALT ? 1 : 0);
            check.is("no PRELUDE is spent: kind", x.ask(0, 1), Kinds.INSERT);
            check.is("no PRELUDE is spent: sort", x.detail(0, 1, 0), 1);
        }
    }

    private static void checkManyPreludes(Check check) {
        PolicyMonitor x = new PolicyMonitor();
        int[] preludes = new int[20];
        for (int i = 0; i < 20; i++) {
            preludes[i] = x.policy(Kinds.PRELUDE, 1, 1, 1 << i);
        }
        x.install(Kinds.join(x, Kinds.BOTH, preludes));
        check.is("count(0)", x.count(0), 39);
        check.gives("twenty INSERTS at depth 1", () -> x.act(0, 3), 3);
        check.is("each once", x.total(1), (1 << 20) - 1);
        check.is("count(2)", x.count(2), 21);
        check.gives("and again", () -> x.act(0, 3), 6);
        check.is("each once more", x.total(1), 2 * ((1 << 20) - 1));
    }
}
