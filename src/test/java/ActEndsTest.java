/** Promise 5: how an ACTING ends, sentence by sentence, and what it leaves. */
public final class ActEndsTest {
    private static final int LOW = Integer.MIN_VALUE;
    private static final int HIGH = Integer.MAX_VALUE;

    public static void main(String[] args) {
        Check check = new Check();
        checkWrapping(check);
        checkNoSuchSort(check);
        checkStoppedEarlier(check);
        checkStoppedNow(check);
        checkForbidden(check);
        checkReplace(check);
        checkBegunAgain(check);
        checkSpentWhileActing(check);
        checkNothingIsSpentAfterwards(check);
        checkTooDeep(check);
        checkOtherEndsAtDepthFive(check);
        checkWhatStaysAfterTooDeep(check);
        checkManyInsertsAtDepthFour(check);
        check.end();
    }

    /** 'adds its argument to the TOTAL of its sort (wrapping) and gives the new TOTAL'. */
    private static void checkWrapping(Check check) {
        for (int sort = 0; sort < 8; sort++) {
            int s = sort;
            PolicyMonitor x = new PolicyMonitor();
            check.gives("0 + 0", () -> x.act(s, 0), 0);
            check.gives("0 + MAX", () -> x.act(s, HIGH), HIGH);
            check.gives("MAX + 1", () -> x.act(s, 1), LOW);
            check.gives("MIN - 1", () -> x.act(s, -1), HIGH);
            check.gives("MAX + MAX", () -> x.act(s, HIGH), -2);
            check.gives("-2 + MIN", () -> x.act(s, LOW), HIGH - 1);
            check.gives("MAX - 1 + 2", () -> x.act(s, 2), LOW);
            check.gives("MIN + MIN", () -> x.act(s, LOW), 0);
            check.is("total", x.total(s), 0);
            check.is("count(2)", x.count(2), 8);
        }
        PolicyMonitor y = new PolicyMonitor();
        y.policy(Kinds.PRELUDE, 1, 0, HIGH);
        y.install(0);
        check.gives("MAX is put before 1", () -> y.act(0, 1), LOW);
        check.gives("and again", () -> y.act(0, 2), 1);
    }

    /** 'IllegalArgumentException: no such sort', before all else. */
    private static void checkNoSuchSort(Check check) {
        int[] wrong = {LOW, -8, -1, 8, 9, HIGH};
        for (int kind = 0; kind <= 5; kind++) {
            PolicyMonitor x = new PolicyMonitor();
            Kinds.suggesting(x, kind, Kinds.ALL, 3);
            x.policy(Kinds.AUDIT, 0, 0, 0);
            x.install(1);
            for (int sort : wrong) {
                check.refused("act(" + sort + ", 1)", () -> x.act(sort, 1));
            }
            int[] counts = {2, 0, 0, 0, 0, 0, 1};
            for (int what = 0; what < counts.length; what++) {
                check.is("count(" + what + ")", x.count(what), counts[what]);
            }
        }
        PolicyMonitor y = new PolicyMonitor();
        y.policy(Kinds.STOP, 1, 0, 0);
        y.install(0);
        check.stopped("act(0, 1)", () -> y.act(0, 1));
        for (int sort : wrong) {
            check.refused("act(" + sort + ", 1) when stopped", () -> y.act(sort, 1));
        }
        check.is("count(4)", y.count(4), 1);
    }

    /** 'it was STOPPED by an earlier act since the last install': then nothing is asked, DONE or noted. */
    private static void checkStoppedEarlier(Check check) {
        PolicyMonitor x = new PolicyMonitor();
        x.policy(Kinds.STOP, 1, 0, 0);
        x.policy(Kinds.QUOTA, 2, 9, 0);
        x.policy(Kinds.FORBID, 4, 0, 0);
        x.policy(Kinds.ANSWER, 8, 7, 0);
        x.policy(Kinds.PRELUDE, 16, 6, 7);
        x.policy(Kinds.AUDIT, Kinds.join(x, Kinds.FIRST, new int[] {0, 1, 2, 3, 4}), 0, 0);
        x.install(9);
        x.act(1, 5);
        check.stopped("act(0, 1)", () -> x.act(0, 1));
        for (int sort = 0; sort < 8; sort++) {
            int s = sort;
            check.stopped("act(" + sort + ", 1) when stopped", () -> x.act(s, 1));
            check.is("count(4)", x.count(4), 2 + sort);
        }
        int[] counts = {10, 2, 1, 0, 9, 1, 9};
        for (int what = 0; what < counts.length; what++) {
            check.is("count(" + what + ")", x.count(what), counts[what]);
        }
        check.is("noted(0)", x.noted(0), 80);
        check.is("state(1)", x.state(1), 1);
        check.is("total(1)", x.total(1), 5);
        check.is("total(5)", x.total(5), 0);
        int[] asked = {Kinds.HALT, Kinds.OK, Kinds.EXCEPTION, Kinds.REPLACE, Kinds.INSERT, 0, 0, 0};
        for (int sort = 0; sort < 8; sort++) {
            check.is("ask(" + sort + ", 1) when stopped", x.ask(sort, 1), asked[sort]);
        }
        check.gives("detail(4, 1, 0) when stopped", () -> x.detail(4, 1, 0), 6);
        check.gives("detail(3, 1, 2) when stopped", () -> x.detail(3, 1, 2), 7);
    }

    /** 'or is STOPPED now', by the ACTION itself or by one that was put before it. */
    private static void checkStoppedNow(Check check) {
        PolicyMonitor x = new PolicyMonitor();
        x.policy(Kinds.PRELUDE, 1, 1, 5);
        x.policy(Kinds.STOP, 2, 0, 0);
        x.policy(Kinds.BOTH, 0, 1, 0);
        for (int sort = 0; sort < 2; sort++) {
            int s = sort;
            x.install(2);
            check.is("count(5)", x.count(5), 0);
            check.stopped("act(" + sort + ", 1)", () -> x.act(s, 1));
            check.is("count(5)", x.count(5), 1);
            check.is("count(4)", x.count(4), 2 * sort + 1);
            check.stopped("act(7, 1)", () -> x.act(7, 1));
            check.is("nothing is DONE", x.count(2), 0);
        }
    }

    /** 'EXCEPTION: FORBIDDEN': the act throws, and the next one is judged anew. */
    private static void checkForbidden(Check check) {
        PolicyMonitor x = new PolicyMonitor();
        x.policy(Kinds.FORBID, 1, 0, 0);
        x.install(0);
        for (int round = 1; round <= 3; round++) {
            check.forbidden("act(0, 1)", () -> x.act(0, 1));
            check.is("count(4)", x.count(4), round);
            check.is("count(5)", x.count(5), 0);
            int due = round;
            check.gives("act(1, 1)", () -> x.act(1, 1), due);
        }
        check.is("total(0)", x.total(0), 0);
    }

    /** 'REPLACE: the answer is the value; nothing is ACCEPTED'; nor is anything DONE. */
    private static void checkReplace(Check check) {
        int[] values = {LOW, -1, 0, 1, HIGH};
        for (int value : values) {
            PolicyMonitor x = new PolicyMonitor();
            x.policy(Kinds.ANSWER, 1, value, 77);
            x.policy(Kinds.QUOTA, 1, 9, 0);
            x.policy(Kinds.BOTH, 0, 1, 0);
            x.install(2);
            check.gives("act(0, 5)", () -> x.act(0, 5), value);
            check.gives("act(0, 6)", () -> x.act(0, 6), value);
            check.is("total(0)", x.total(0), 0);
            check.is("state(1)", x.state(1), 0);
            check.is("count(2)", x.count(2), 0);
            check.is("count(3)", x.count(3), 2);
            check.is("count(4)", x.count(4), 0);
        }
    }

    /** 'then this one is begun again, at the same depth': the POLICY is asked anew, and AUDITS note anew. */
    private static void checkBegunAgain(Check check) {
        PolicyMonitor x = new PolicyMonitor();
        x.policy(Kinds.PRELUDE, 1, 1, 5);
        x.policy(Kinds.ALLOW, 3, 0, 0);
        x.policy(Kinds.FIRST, 0, 1, 0);
        x.policy(Kinds.AUDIT, 2, 0, 0);
        x.install(3);
        check.gives("act(0, 2)", () -> x.act(0, 2), 2);
        check.is("count(1)", x.count(1), 3);
        check.is("the INSERT is noted first", x.noted(2), 32);
        check.is("then its ACTION", x.noted(1), 17);
        check.is("then this one", x.noted(0), 16);
    }

    /** A PRELUDE that is SPENT at any depth stays so until the ACTING at depth 1 is over. */
    private static void checkSpentWhileActing(Check check) {
        PolicyMonitor x = new PolicyMonitor();
        x.policy(Kinds.PRELUDE, 3, 1, 5);
        x.install(0);
        check.gives("act(0, 1)", () -> x.act(0, 1), 1);
        check.is("it came once", x.count(2), 2);
        PolicyMonitor y = new PolicyMonitor();
        y.policy(Kinds.PRELUDE, 1, 1, 10);
        y.policy(Kinds.PRELUDE, 3, 2, 20);
        y.policy(Kinds.FIRST, 0, 1, 0);
        y.install(2);
        for (int round = 1; round <= 2; round++) {
            int due = round;
            check.gives("act(0, 1)", () -> y.act(0, 1), due);
            check.is("total(1)", y.total(1), 10 * round);
            check.is("total(2)", y.total(2), 20 * round);
        }
    }

    /** 'When the ACTING at depth 1 is over, however it ends, no PRELUDE is SPENT.' */
    private static void checkNothingIsSpentAfterwards(Check check) {
        for (int kind = 0; kind <= 5; kind++) {
            for (int inside = 0; inside < 2; inside++) {
                PolicyMonitor x = new PolicyMonitor();
                x.policy(Kinds.PRELUDE, 1, 1, 10);
                x.policy(Kinds.PRELUDE, 9, 2, 20);
                x.policy(Kinds.FIRST, 0, 1, 0);
                // The end comes while the second INSERT's ACTION is ACTED, or behind it.
                Kinds.suggesting(x, kind, inside == 1 ? 4 : 1, 7);
                x.policy(Kinds.FIRST, 2, 3, 0);
                x.install(4);
                try {
                    x.act(0, 1);
                } catch (RuntimeException e) {
                    // How it ends is looked at elsewhere.
                }
                String after = "after an end by " + kind;
                check.is(after + ": ask(0, 1)", x.ask(0, 1), Kinds.INSERT);
                check.gives(after + ": its sort", () -> x.detail(0, 1, 0), 1);
                check.is(after + ": ask(3, 1), of the second PRELUDE alone", x.ask(3, 1), Kinds.INSERT);
            }
        }
    }

    /** PRELUDES by which each sort from 0 to last - 1 puts the next one before it, and others behind them. */
    private static PolicyMonitor chain(int last, int kindAtLast) {
        PolicyMonitor x = new PolicyMonitor();
        int[] parts = new int[last + 1];
        for (int sort = 0; sort < last; sort++) {
            parts[sort] = x.policy(Kinds.PRELUDE, 1 << sort, sort + 1, 1);
        }
        parts[last] = Kinds.suggesting(x, kindAtLast, 1 << last, 9);
        x.install(x.policy(Kinds.AUDIT, Kinds.join(x, Kinds.FIRST, parts), 0, 0));
        return x;
    }

    /** 'one deeper (at depth 5: TOO DEEP instead)'. */
    private static void checkTooDeep(Check check) {
        for (int last = 1; last <= 7; last++) {
            PolicyMonitor x = chain(last, Kinds.OK);
            for (int from = 0; from <= last; from++) {
                int s = from;
                int done = x.count(2);
                int thrown = x.count(4);
                int noted = x.count(1);
                boolean fits = last - from < 5;
                if (fits) {
                    check.gives("from " + from + " to " + last, () -> x.act(s, 0), x.total(from));
                } else {
                    check.tooDeep("from " + from + " to " + last, () -> x.act(s, 0));
                }
                check.is("DONE", x.count(2) - done, fits ? last - from + 1 : 0);
                check.is("act calls that threw", x.count(4) - thrown, fits ? 0 : 1);
                check.is("notes", x.count(1) - noted, fits ? 1 + last - from : 5);
                check.is("count(5)", x.count(5), 0);
            }
        }
    }

    /** Only an INSERT is too much at depth 5. */
    private static void checkOtherEndsAtDepthFive(Check check) {
        PolicyMonitor answered = chain(4, Kinds.REPLACE);
        check.gives("a REPLACE at depth 5", () -> answered.act(0, 3), 3);
        check.is("count(2)", answered.count(2), 4);
        check.is("count(3)", answered.count(3), 1);
        PolicyMonitor forbidden = chain(4, Kinds.EXCEPTION);
        check.forbidden("an EXCEPTION at depth 5", () -> forbidden.act(0, 3));
        check.is("count(2)", forbidden.count(2), 0);
        PolicyMonitor stopped = chain(4, Kinds.HALT);
        check.stopped("a HALT at depth 5", () -> stopped.act(0, 3));
        check.is("count(5)", stopped.count(5), 1);
        PolicyMonitor deep = chain(4, Kinds.INSERT);
        check.tooDeep("an INSERT at depth 5", () -> deep.act(0, 3));
        check.is("count(2)", deep.count(2), 0);
    }

    /** 'What was DONE and noted before stays', and what was ACCEPTED with it. */
    private static void checkWhatStaysAfterTooDeep(Check check) {
        PolicyMonitor x = new PolicyMonitor();
        int[] parts = new int[7];
        parts[0] = x.policy(Kinds.PRELUDE, 1, 7, 50);
        for (int sort = 0; sort < 5; sort++) {
            parts[sort + 1] = x.policy(Kinds.PRELUDE, 1 << sort, sort + 1, 1);
        }
        parts[6] = x.policy(Kinds.QUOTA, 128, 2, 0);
        int top = x.policy(Kinds.AUDIT, Kinds.join(x, Kinds.FIRST, parts), 0, 0);
        x.install(top);
        for (int round = 1; round <= 2; round++) {
            check.tooDeep("act(0, 1)", () -> x.act(0, 1));
            check.is("total(7)", x.total(7), 50 * round);
            check.is("state(6)", x.state(6), round);
            check.is("count(1)", x.count(1), 7 * round);
            check.is("count(2)", x.count(2), round);
            check.is("count(4)", x.count(4), round);
            check.is("noted(0), the INSERT at depth 5", x.noted(0), 36);
            check.is("noted(5), the one that was DONE", x.noted(5), 23);
        }
        check.forbidden("the quota is used up", () -> x.act(0, 1));
        check.is("total(7)", x.total(7), 100);
        check.gives("another ACTION", () -> x.act(5, 1), 1);
    }

    /** However many INSERTS there are in a row, the depth is that of the ACTION behind which they stand. */
    private static void checkManyInsertsAtDepthFour(Check check) {
        PolicyMonitor x = new PolicyMonitor();
        int[] parts = new int[13];
        for (int sort = 0; sort < 3; sort++) {
            parts[sort] = x.policy(Kinds.PRELUDE, 1 << sort, sort + 1, 1);
        }
        for (int i = 3; i < 13; i++) {
            parts[i] = x.policy(Kinds.PRELUDE, 8, 7, 1);
        }
        x.install(Kinds.join(x, Kinds.BOTH, parts));
        check.gives("act(0, 1)", () -> x.act(0, 1), 1);
        check.is("total(7)", x.total(7), 10);
        check.is("count(2)", x.count(2), 14);
    }
}
