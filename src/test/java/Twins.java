/**
 * Two objects made by the same calls. What a refused call on the one changed, though it should not have, shows as a
 * difference between the two: in what can be read, or in what later calls answer. Some 330 calls on each.
 */
final class Twins {
    interface Making {
        void on(PolicyMonitor x);
    }

    interface Question {
        int of(PolicyMonitor x);
    }

    final PolicyMonitor touched = new PolicyMonitor();
    private final PolicyMonitor other = new PolicyMonitor();
    private final Check check;

    Twins(Check check, Making making) {
        this.check = check;
        making.on(touched);
        making.on(other);
    }

    void areAlike(String after) {
        compareWhatIsRead(after);
        compareSuggestions(after);
        compareActs(after);
        compareWhatIsRead(after + " and acts");
        compareUse(after);
        compareEntries(after);
    }

    private static String answer(Question question, PolicyMonitor x) {
        try {
            return Integer.toString(question.of(x));
        } catch (RuntimeException e) {
            return e.getClass().getSimpleName();
        }
    }

    private void compare(String after, String call, Question question) {
        String got = answer(question, touched);
        String due = answer(question, other);
        if (!got.equals(due)) {
            check.tell("after " + after + ": " + call + " answered " + got + ", due is " + due);
        }
    }

    private void compareWhatIsRead(String after) {
        for (int what = 0; what <= 6; what++) {
            int w = what;
            compare(after, "count(" + what + ")", x -> x.count(w));
        }
        for (int sort = 0; sort < 8; sort++) {
            int s = sort;
            compare(after, "total(" + sort + ")", x -> x.total(s));
        }
        for (int number = 0; number < 40; number++) {
            int p = number;
            compare(after, "state(" + number + ")", x -> x.state(p));
        }
        for (int k = 0; k < 16; k++) {
            int n = k;
            compare(after, "noted(" + k + ")", x -> x.noted(n));
        }
    }

    private void compareSuggestions(String after) {
        for (int sort = 0; sort < 8; sort++) {
            int s = sort;
            compare(after, "ask(" + sort + ", 1)", x -> x.ask(s, 1));
            compare(after, "detail(" + sort + ", 1, 0)", x -> x.detail(s, 1, 0));
            compare(after, "detail(" + sort + ", 1, 1)", x -> x.detail(s, 1, 1));
            compare(after, "detail(" + sort + ", 1, 2)", x -> x.detail(s, 1, 2));
        }
    }

    private void compareActs(String after) {
        // The last sort is the one that stops all in RefusedTest.
        for (int sort = 0; sort < 8; sort++) {
            int s = sort;
            compare(after, "act(" + sort + ", 1)", x -> x.act(s, 1));
        }
    }

    /** Used operands and LEVELS show only when new POLICIES are made. */
    private void compareUse(String after) {
        for (int number = 0; number < 40; number++) {
            int p = number;
            compare(after, "policy(AUDIT, " + number + ", ..)", x -> x.policy(Kinds.AUDIT, p, 0, 0));
        }
    }

    private void compareEntries(String after) {
        for (int i = 0; i < 96; i++) {
            int place = i;
            compare(after, "the entry " + i, x -> x.table(place / 32, place / 8 % 4, place % 8, 5));
        }
    }
}
