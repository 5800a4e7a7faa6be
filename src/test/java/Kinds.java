/** The document's names for the kinds of policies and of suggestions. */
final class Kinds {
    static final int ALLOW = 0;
    static final int FORBID = 1;
    static final int STOP = 2;
    static final int QUOTA = 3;
    static final int ANSWER = 4;
    static final int PRELUDE = 5;
    static final int AUTOMATON = 6;
    static final int RANGE = 7;
    static final int BOTH = 8;
    static final int EITHER = 9;
    static final int FIRST = 10;
    static final int OVERRULE = 11;
    static final int ONLY = 12;
    static final int AUDIT = 13;
    static final int TURN = 14;

    static final int IRRELEVANT = 0;
    static final int OK = 1;
    static final int INSERT = 2;
    static final int REPLACE = 3;
    static final int EXCEPTION = 4;
    static final int HALT = 5;

    static final int ALL = 255;

    private Kinds() {
    }

    /** A policy without operands that suggests the kind for the sorts of a set. */
    static int suggesting(PolicyMonitor x, int suggestion, int set, int value) {
        switch (suggestion) {
            case OK:
                return x.policy(ALLOW, set, 0, 0);
            case INSERT:
                return x.policy(PRELUDE, set, 7, value);
            case REPLACE:
                return x.policy(ANSWER, set, value, 0);
            case EXCEPTION:
                return x.policy(FORBID, set, 0, 0);
            case HALT:
                return x.policy(STOP, set, 0, 0);
            default:
                return x.policy(ALLOW, 0, 0, 0);
        }
    }

    /** Joins policies by pairs of one kind to a single one, with a LEVEL as low as can be: its number. */
    static int join(PolicyMonitor x, int kind, int[] policies) {
        int[] tops = policies.clone();
        for (int size = tops.length; size > 1; size = (size + 1) / 2) {
            for (int i = 0; i + 1 < size; i += 2) {
                tops[i / 2] = x.policy(kind, tops[i], tops[i + 1], 0);
            }
            if (size % 2 == 1) {
                tops[size / 2] = tops[size - 1];
            }
        }
        return tops[0];
    }
}
