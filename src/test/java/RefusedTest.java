/** A call that is refused changes nothing but what the document says of it. */
public final class RefusedTest {
    private static final int LOW = Integer.MIN_VALUE;
    private static final int HIGH = Integer.MAX_VALUE;

    /** The POLICY to be installed, and one of LEVEL 7; see made. */
    private static final int TOP = 15;
    private static final int TALL = 21;

    private static final Twins.Making[] MAKINGS = {
        RefusedTest::nothing, RefusedTest::made, RefusedTest::underWay, RefusedTest::stopped, RefusedTest::full
    };
    private static final String[] NAMES = {
        "a new object", "none installed", "under way", "stopped", "full"
    };

    private final Check check = new Check();

    public static void main(String[] args) {
        RefusedTest test = new RefusedTest();
        for (int i = 0; i < MAKINGS.length; i++) {
            test.checkBadArguments(NAMES[i], MAKINGS[i]);
            test.checkDetail(NAMES[i], MAKINGS[i]);
            test.checkReading(NAMES[i], MAKINGS[i]);
        }
        test.checkUsedOperands();
        test.checkLevels();
        test.checkTooMany();
        test.checkActsThatThrow();
        test.check.end();
    }

    // ---- the states in which calls are refused

    private static void nothing(PolicyMonitor x) {
    }

    /** Not used as operands are 0, an ALLOW, and those that the constants TOP and TALL name. */
    private static void made(PolicyMonitor x) {
        x.table(0, 0, 1, 1);
        x.table(0, 1, 1, 2);
        x.table(2, 3, 7, 4);
        x.policy(Kinds.ALLOW, 1, 0, 0);
        x.policy(Kinds.QUOTA, 1, 50, 0);
        x.policy(Kinds.AUTOMATON, 0, 0, 0);
        x.policy(Kinds.PRELUDE, 4, 1, 6);
        x.policy(Kinds.ANSWER, 8, 44, 0);
        x.policy(Kinds.FORBID, 16, 0, 0);
        x.policy(Kinds.RANGE, 32, -5, 5);
        x.policy(Kinds.STOP, 128, 0, 0);
        int joined = Kinds.join(x, Kinds.FIRST, new int[] {1, 2, 3, 4, 5, 6, 7});
        int tall = x.policy(Kinds.ALLOW, 0, 0, 0);
        x.policy(Kinds.AUDIT, joined, 0, 0);
        for (int i = 0; i < 6; i++) {
            tall = x.policy(Kinds.AUDIT, tall, 0, 0);
        }
    }

    private static void underWay(PolicyMonitor x) {
        made(x);
        x.install(TOP);
        for (int i = 0; i < 20; i++) {
            x.act(i % 4, i);
        }
    }

    private static void stopped(PolicyMonitor x) {
        underWay(x);
        try {
            x.act(7, 1);
        } catch (UnsupportedOperationException e) {
            // So it is due.
        }
    }

    private static void full(PolicyMonitor x) {
        underWay(x);
        while (x.count(0) < 40) {
            x.policy(Kinds.ALLOW, 1, 0, 0);
        }
    }

    // ---- the refused calls

    private void refused(String state, Twins.Making making, Class<? extends RuntimeException> due, String call,
            Twins.Question question) {
        Twins twins = new Twins(check, making);
        // Twice, as a first one that changes something may let the second one through.
        check.fails(state + ": " + call, due, () -> question.of(twins.touched));
        check.fails(state + ": " + call + " again", due, () -> question.of(twins.touched));
        twins.areAlike(state + ", " + call);
    }

    private void checkBadArguments(String state, Twins.Making making) {
        Class<IllegalArgumentException> due = IllegalArgumentException.class;
        int[][] tables = {{-1, 0, 1, 0}, {3, 0, 1, 0}, {0, -1, 1, 0}, {0, 4, 1, 0}, {0, 0, -1, 0}, {0, 0, 8, 0},
            {0, 0, 1, -1}, {0, 0, 1, 6}, {LOW, LOW, LOW, LOW}, {HIGH, HIGH, HIGH, HIGH}};
        for (int[] c : tables) {
            refused(state, making, due, "a table", x -> x.table(c[0], c[1], c[2], c[3]));
        }
        int[][] policies = {{-1, 0, 0, 0}, {15, 0, 0, 0}, {Kinds.ALLOW, 256, 0, 0}, {Kinds.QUOTA, 1, 100, 0},
            {Kinds.PRELUDE, 1, 8, 0}, {Kinds.AUTOMATON, 3, 0, 0}, {Kinds.BOTH, 0, 40, 0}, {Kinds.BOTH, 40, 0, 0},
            {Kinds.ONLY, 256, 0, 0}, {Kinds.ONLY, 1, -1, 0}, {Kinds.AUDIT, 40, 0, 0}, {Kinds.TURN, 0, 2, 0},
            {Kinds.TURN, 0, 1, 2}};
        for (int[] c : policies) {
            refused(state, making, due, "a policy of kind " + c[0], x -> x.policy(c[0], c[1], c[2], c[3]));
        }
        int[] numbers = {LOW, -1, 40, HIGH};
        for (int number : numbers) {
            refused(state, making, due, "install(" + number + ")", x -> x.install(number));
            refused(state, making, due, "act(" + number + ", 1)", x -> x.act(number, 1));
            refused(state, making, due, "ask(" + number + ", 1)", x -> x.ask(number, 1));
            refused(state, making, due, "detail(" + number + ", 1, 0)", x -> x.detail(number, 1, 0));
            refused(state, making, due, "detail(2, 1, " + number + ")", x -> x.detail(2, 1, number));
            refused(state, making, due, "total(" + number + ")", x -> x.total(number));
        }
    }

    private void checkDetail(String state, Twins.Making making) {
        int[][] details = {{0, 0}, {0, 2}, {2, 2}, {3, 0}, {3, 1}, {4, 1}, {7, 0}, {7, 2}};
        for (int[] d : details) {
            refused(state, making, IllegalStateException.class, "detail(" + d[0] + ", 1, " + d[1] + ")",
                    x -> x.detail(d[0], 1, d[1]));
        }
    }

    /** Calls that only read, among them those with -1 for an answer. */
    private void checkReading(String state, Twins.Making making) {
        Twins twins = new Twins(check, making);
        PolicyMonitor x = twins.touched;
        int[] numbers = {LOW, -1, 16, 40, HIGH};
        for (int number : numbers) {
            check.gives("noted(" + number + ")", () -> x.noted(number), -1);
            check.gives("count(" + number + ")", () -> x.count(number), -1);
            check.gives("state(" + number + ")", () -> x.state(number), -1);
        }
        for (int sort = 0; sort < 8; sort++) {
            x.ask(sort, 1);
            x.total(sort);
        }
        twins.areAlike(state + ", reading");
    }

    private void checkUsedOperands() {
        Class<IllegalStateException> due = IllegalStateException.class;
        int[][] calls = {{Kinds.BOTH, 0, 1, 0}, {Kinds.EITHER, 1, 0, 0}, {Kinds.FIRST, 0, 0, 0},
            {Kinds.OVERRULE, 1, 2, 0}, {Kinds.ONLY, 1, 1, 0}, {Kinds.AUDIT, 1, 0, 0}, {Kinds.TURN, 1, 4, 0}};
        for (int[] c : calls) {
            refused("under way", RefusedTest::underWay, due, "used, kind " + c[0],
                    x -> x.policy(c[0], c[1], c[2], c[3]));
            refused("full", RefusedTest::full, due, "used, kind " + c[0], x -> x.policy(c[0], c[1], c[2], c[3]));
        }
    }

    private void checkLevels() {
        Class<UnsupportedOperationException> due = UnsupportedOperationException.class;
        int[][] calls = {{Kinds.BOTH, 0, TALL, 0}, {Kinds.EITHER, TALL, 0, 0}, {Kinds.ONLY, 1, TALL, 0},
            {Kinds.AUDIT, TALL, 0, 0}, {Kinds.TURN, TALL, 4, 0}};
        for (int[] c : calls) {
            refused("under way", RefusedTest::underWay, due, "LEVEL 8, kind " + c[0],
                    x -> x.policy(c[0], c[1], c[2], c[3]));
            refused("full", RefusedTest::full, due, "LEVEL 8, kind " + c[0], x -> x.policy(c[0], c[1], c[2], c[3]));
        }
    }

    private void checkTooMany() {
        int[][] calls = {{Kinds.ALLOW, 1, 0, 0}, {Kinds.QUOTA, 1, 5, 0}, {Kinds.BOTH, 0, 39, 0},
            {Kinds.ONLY, 1, 0, 0}, {Kinds.AUDIT, 39, 0, 0}, {Kinds.TURN, 0, 4, 0}};
        for (int[] c : calls) {
            refused("full", RefusedTest::full, ArithmeticException.class, "a 41st, kind " + c[0],
                    x -> x.policy(c[0], c[1], c[2], c[3]));
        }
    }

    /** An act that throws is counted, and what it asked is noted; COUNTS, STATES and TOTALS stay. */
    private void checkActsThatThrow() {
        PolicyMonitor x = new PolicyMonitor();
        underWay(x);
        int[] before = readAll(x);
        check.forbidden("act(4, 1)", () -> x.act(4, 1));
        check.forbidden("act(5, 6)", () -> x.act(5, 6));
        check.stopped("act(7, 1)", () -> x.act(7, 1));
        check.stopped("act(0, 1)", () -> x.act(0, 1));
        int[] after = readAll(x);
        int[] more = {0, 3, 0, 0, 4, 1, 0};
        for (int i = 0; i < after.length; i++) {
            int due = before[i] + (i < more.length ? more[i] : 0);
            check.is("number " + i + " of what is read after acts that threw", after[i], due);
        }
        check.is("noted(0)", x.noted(0), 16 * Kinds.HALT + 7);
        check.is("noted(1)", x.noted(1), 16 * Kinds.EXCEPTION + 5);
        check.is("noted(2)", x.noted(2), 16 * Kinds.EXCEPTION + 4);
    }

    /** The counts, the TOTALS and what state answers, in this order. */
    private static int[] readAll(PolicyMonitor x) {
        int[] read = new int[55];
        for (int what = 0; what < 7; what++) {
            read[what] = x.count(what);
        }
        for (int sort = 0; sort < 8; sort++) {
            read[7 + sort] = x.total(sort);
        }
        for (int number = 0; number < 40; number++) {
            read[15 + number] = x.state(number);
        }
        return read;
    }
}
