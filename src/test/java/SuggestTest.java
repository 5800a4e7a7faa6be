/** What each kind of policy suggests: the terms behind promises 5 to 7. */
public final class SuggestTest {
    public static void main(String[] args) {
        Check check = new Check();
        checkKindsWithSets(check);
        checkEmptyAndFullSets(check);
        checkQuota(check);
        checkAutomaton(check);
        checkRange(check);
        checkPairs(check);
        checkOnly(check);
        checkTurn(check);
        checkDetailsGoThrough(check);
        check.end();
    }

    private static void checkKindsWithSets(Check check) {
        for (int suggestion = Kinds.OK; suggestion <= Kinds.HALT; suggestion++) {
            for (int member = 0; member < 8; member++) {
                PolicyMonitor x = new PolicyMonitor();
                Kinds.suggesting(x, suggestion, 1 << member, 0);
                Kinds.suggesting(x, suggestion, Kinds.ALL - (1 << member), 0);
                for (int sort = 0; sort < 8; sort++) {
                    x.install(0);
                    check.is("in the set?", x.ask(sort, 5), sort == member ? suggestion : 0);
                    x.install(1);
                    check.is("in the other set?", x.ask(sort, 5), sort == member ? 0 : suggestion);
                }
            }
        }
    }

    /** The SETS 0, of no sort, and 255, of all. */
    private static void checkEmptyAndFullSets(Check check) {
        int[] withSets = {Kinds.ALLOW, Kinds.FORBID, Kinds.STOP, Kinds.QUOTA, Kinds.ANSWER, Kinds.PRELUDE,
            Kinds.RANGE};
        int[] due = {Kinds.OK, Kinds.EXCEPTION, Kinds.HALT, Kinds.OK, Kinds.REPLACE, Kinds.INSERT, Kinds.OK};
        for (int i = 0; i < due.length; i++) {
            PolicyMonitor x = new PolicyMonitor();
            x.policy(withSets[i], 0, 1, 1);
            x.policy(withSets[i], 255, 1, 1);
            x.policy(Kinds.ONLY, 0, 1, 0);
            for (int sort = 0; sort < 8; sort++) {
                x.install(0);
                check.is("the SET 0 of kind " + withSets[i], x.ask(sort, 1), Kinds.IRRELEVANT);
                x.install(1);
                check.is("the SET 255 of kind " + withSets[i], x.ask(sort, 1), due[i]);
                x.install(2);
                check.is("the SET 0 of ONLY", x.ask(sort, 1), Kinds.IRRELEVANT);
            }
        }
    }

    /** 'OK if its COUNT is below b (0 .. 99), else EXCEPTION'. */
    private static void checkQuota(Check check) {
        int[] limits = {0, 1, 2, 99};
        for (int limit : limits) {
            PolicyMonitor x = new PolicyMonitor();
            x.policy(Kinds.QUOTA, 6, limit, 0);
            x.install(0);
            for (int i = 0; i < limit; i++) {
                check.is("below the quota", x.ask(1 + i % 2, 0), Kinds.OK);
                x.act(1 + i % 2, 1);
            }
            check.is("the count of the quota", x.state(0), limit);
            check.is("at the quota", x.ask(1, 0), Kinds.EXCEPTION);
            check.is("at the quota, the other sort", x.ask(2, 0), Kinds.EXCEPTION);
            check.is("not in the quota's set", x.ask(0, 0), Kinds.IRRELEVANT);
            check.forbidden("act at the quota", () -> x.act(1, 0));
            check.is("the count stays", x.state(0), limit);
        }
    }

    private static void checkAutomaton(Check check) {
        PolicyMonitor x = new PolicyMonitor();
        int[] due = {Kinds.OK, Kinds.OK, Kinds.OK, Kinds.OK, Kinds.EXCEPTION, Kinds.IRRELEVANT};
        for (int next = 0; next < 6; next++) {
            x.table(1, 0, next, next);
        }
        x.table(0, 0, 0, 4);
        x.table(2, 0, 0, 4);
        x.policy(Kinds.AUTOMATON, 1, 0, 0);
        for (int next = 0; next < 6; next++) {
            x.install(0);
            check.is("the entry " + next, x.ask(next, 0), due[next]);
            check.is("asking changes nothing", x.state(0), 0);
        }
        x.install(0);
        x.act(5, 0);
        check.is("entry 5 leaves the state", x.state(0), 0);
        check.forbidden("entry 4", () -> x.act(4, 0));
        check.is("entry 4 leaves the state", x.state(0), 0);
        x.act(3, 0);
        check.is("entry 3", x.state(0), 3);
    }

    /** 'OK if b <= v <= c, else EXCEPTION'. */
    private static void checkRange(Check check) {
        PolicyMonitor x = new PolicyMonitor();
        x.policy(Kinds.RANGE, 2, -3, 3);
        x.policy(Kinds.RANGE, 2, Integer.MIN_VALUE, Integer.MAX_VALUE);
        x.policy(Kinds.RANGE, 2, 3, -3);
        x.policy(Kinds.RANGE, 2, 3, 3);
        int[] arguments = {Integer.MIN_VALUE, -4, -3, 0, 3, 4, Integer.MAX_VALUE};
        int[] due = {4, 4, 1, 1, 1, 4, 4};
        for (int i = 0; i < due.length; i++) {
            x.install(0);
            check.is("-3 .. 3: " + arguments[i], x.ask(1, arguments[i]), due[i]);
            check.is("another sort", x.ask(0, arguments[i]), Kinds.IRRELEVANT);
            x.install(1);
            check.is("all: " + arguments[i], x.ask(1, arguments[i]), Kinds.OK);
            x.install(2);
            check.is("none: " + arguments[i], x.ask(1, arguments[i]), Kinds.EXCEPTION);
            x.install(3);
            check.is("3 alone: " + arguments[i], x.ask(1, arguments[i]), arguments[i] == 3 ? 1 : 4);
        }
    }

    private static boolean takesA(int kind, int a, int b) {
        switch (kind) {
            case Kinds.BOTH:
                return a >= b;
            case Kinds.EITHER:
                if (a == 0 || b == 0) {
                    return b == 0;
                }
                return a <= b;
            case Kinds.FIRST:
                return a != 0;
            default:
                return a >= 2;
        }
    }

    /** 'a's if they are of the same kind', 'if both SUGGEST IRRELEVANT', and all the other pairs. */
    private static void checkPairs(Check check) {
        for (int kind = Kinds.BOTH; kind <= Kinds.OVERRULE; kind++) {
            for (int a = 0; a <= 5; a++) {
                for (int b = 0; b <= 5; b++) {
                    checkPair(check, kind, a, b);
                }
            }
        }
    }

    private static void checkPair(Check check, int kind, int a, int b) {
        PolicyMonitor x = new PolicyMonitor();
        Kinds.suggesting(x, a, 1, 10);
        Kinds.suggesting(x, b, 1, 20);
        x.policy(Kinds.AUDIT, 0, 0, 0);
        x.policy(Kinds.AUDIT, 1, 0, 0);
        x.policy(kind, 2, 3, 0);
        x.install(4);
        boolean first = takesA(kind, a, b);
        int due = first ? a : b;
        String pair = "kind " + kind + " of " + a + " and " + b;
        check.is(pair, x.ask(0, 0), due);
        if (due == Kinds.INSERT) {
            check.is(pair + ": whose INSERT", x.detail(0, 0, 1), first ? 10 : 20);
        }
        if (due == Kinds.REPLACE) {
            check.is(pair + ": whose REPLACE", x.detail(0, 0, 2), first ? 10 : 20);
        }
        if (a != Kinds.INSERT && b != Kinds.INSERT) {
            checkNotesOfPair(check, x, pair, first && kind >= Kinds.FIRST, a, b);
        }
    }

    private static void checkNotesOfPair(Check check, PolicyMonitor x, String pair, boolean onlyA, int a, int b) {
        try {
            x.act(0, 1);
        } catch (RuntimeException e) {
            // How it ends is not what is looked at here.
        }
        int noted = (a != 0 ? 1 : 0) + (b != 0 && !onlyA ? 1 : 0);
        check.is(pair + ": numbers noted", x.count(1), noted);
        if (noted == 2) {
            check.is(pair + ": b is asked last", x.noted(0), 16 * b);
            check.is(pair + ": a is asked first", x.noted(1), 16 * a);
        }
    }

    private static void checkOnly(Check check) {
        PolicyMonitor x = new PolicyMonitor();
        x.policy(Kinds.ANSWER, 3, 77, 0);
        x.policy(Kinds.AUDIT, 0, 0, 0);
        x.policy(Kinds.ONLY, 6, 1, 0);
        x.install(2);
        check.is("in b's set alone", x.ask(0, 0), Kinds.IRRELEVANT);
        check.is("in both sets", x.ask(1, 0), Kinds.REPLACE);
        check.is("in ONLY's set alone", x.ask(2, 0), Kinds.IRRELEVANT);
        check.gives("act(0, 5)", () -> x.act(0, 5), 5);
        check.is("b was not asked", x.count(1), 0);
        check.gives("act(1, 5)", () -> x.act(1, 5), 77);
        check.is("b was asked", x.noted(0), 16 * 3 + 1);
    }

    private static void checkTurn(Check check) {
        int[] from = {1, 4, 5};
        int[] to = {0, 1, 4, 5};
        for (int b : from) {
            for (int c : to) {
                for (int given = 0; given <= 5; given++) {
                    PolicyMonitor x = new PolicyMonitor();
                    Kinds.suggesting(x, given, 1, 33);
                    x.policy(Kinds.TURN, 0, b, c);
                    x.install(1);
                    check.is("TURN " + b + " " + c + " of " + given, x.ask(0, 0), given == b ? c : given);
                }
            }
        }
    }

    /** ONLY, AUDIT and TURN leave the ACTION of an INSERT and the value of a REPLACE as they are. */
    private static void checkDetailsGoThrough(Check check) {
        PolicyMonitor x = new PolicyMonitor();
        x.policy(Kinds.PRELUDE, 1, 6, -33);
        x.policy(Kinds.ANSWER, 2, 44, 0);
        x.policy(Kinds.FIRST, 0, 1, 0);
        x.policy(Kinds.TURN, 2, Kinds.OK, Kinds.HALT);
        x.policy(Kinds.ONLY, 3, 3, 0);
        x.policy(Kinds.AUDIT, 4, 0, 0);
        for (int number = 2; number <= 5; number++) {
            x.install(number);
            check.gives("the INSERT's sort", () -> x.detail(0, 0, 0), 6);
            check.gives("the INSERT's argument", () -> x.detail(0, 0, 1), -33);
            check.gives("the REPLACE's value", () -> x.detail(1, 0, 2), 44);
        }
    }
}
