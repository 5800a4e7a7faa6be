/** Policies that watch the actions of a program; see README.md for how to use it. */
public final class PolicyMonitor {
    private static final int SORTS = 8;
    private static final int SETS = 256;
    private static final int TABLES = 3;
    private static final int STATES = 4;
    private static final int MOST_POLICIES = 40;
    private static final int HIGHEST_LEVEL = 7;
    private static final int DEEPEST = 5;
    private static final int NOTES_KEPT = 16;
    private static final int SORT_SHARE = 16;
    private static final int QUOTA_LIMIT = 100;
    private static final int NONE = -1;

    // Entries of a table beside the next states.
    private static final int ENTRY_FORBIDS = 4;
    private static final int ENTRY_IGNORES = 5;

    // Kinds of suggestions, from the mildest on.
    private static final int IRRELEVANT = 0;
    private static final int OK = 1;
    private static final int INSERT = 2;
    private static final int REPLACE = 3;
    private static final int EXCEPTION = 4;
    private static final int HALT = 5;
    private static final int SUGGESTION_WIDTH = 8;

    // Kinds of policies.
    private static final int ALLOW = 0;
    private static final int FORBID = 1;
    private static final int STOP = 2;
    private static final int QUOTA = 3;
    private static final int ANSWER = 4;
    private static final int PRELUDE = 5;
    private static final int AUTOMATON = 6;
    private static final int RANGE = 7;
    private static final int BOTH = 8;
    private static final int EITHER = 9;
    private static final int FIRST = 10;
    private static final int OVERRULE = 11;
    private static final int ONLY = 12;
    private static final int AUDIT = 13;
    private static final int TURN = 14;

    // How an acting ends.
    private static final int ANSWERED = 0;
    private static final int FORBIDDEN = 1;
    private static final int STOPPED = 2;
    private static final int TOO_DEEP = 3;

    // One row for each thing that is known of a policy, by the policy's number.
    private final int[] kinds;
    private final int[] operandA;
    private final int[] operandB;
    private final int[] operandC;
    private final int[] levels;
    private final boolean[] used;
    /** The count of a quota, the state of an automaton. */
    private final int[] progress;
    private final boolean[] spent;

    private final int[] entries;
    private final int[] totals;
    private final int[] notes;

    private int policyCount;
    private int noteCount;
    private int doneCount;
    private int replacedCount;
    private int thrownCount;
    private int installed;
    private boolean stopped;
    /** What the newest action that was done or replaced gave; read only when an acting ended as ANSWERED. */
    private int answer;

    public PolicyMonitor() {
        kinds = new int[MOST_POLICIES];
        operandA = new int[MOST_POLICIES];
        operandB = new int[MOST_POLICIES];
        operandC = new int[MOST_POLICIES];
        levels = new int[MOST_POLICIES];
        used = new boolean[MOST_POLICIES];
        progress = new int[MOST_POLICIES];
        spent = new boolean[MOST_POLICIES];
        entries = new int[TABLES * STATES * SORTS];
        for (int i = 0; i < entries.length; i++) {
            entries[i] = ENTRY_IGNORES;
        }
        totals = new int[SORTS];
        notes = new int[NOTES_KEPT];
        installed = NONE;
    }

    public int table(int k, int state, int sort, int next) throws IllegalArgumentException {
        if (!isTable(k) || !isBelow(state, STATES) || !isSort(sort) || !isBelow(next, ENTRY_IGNORES + 1)) {
            throw new IllegalArgumentException("a number is out of range");
        }
        int place = entryPlace(k, state, sort);
        int before = entries[place];
        entries[place] = next;
        return before;
    }

    public int policy(int kind, int a, int b, int c) throws IllegalArgumentException, IllegalStateException,
            UnsupportedOperationException, ArithmeticException {
        if (!isAsSaid(kind, a, b, c)) {
            throw new IllegalArgumentException("no such kind, or an operand is not as said");
        }
        if (isTaken(kind, a, b)) {
            throw new IllegalStateException("an operand is used already");
        }
        int level = levelAbove(kind, a, b);
        if (level > HIGHEST_LEVEL) {
            throw new UnsupportedOperationException("the level is too high");
        }
        if (policyCount >= MOST_POLICIES) {
            throw new ArithmeticException("there are too many policies");
        }
        return addPolicy(kind, a, b, c, level);
    }

    public int install(int policy) throws IllegalArgumentException {
        if (!isPolicy(policy)) {
            throw new IllegalArgumentException("no such policy");
        }
        installed = policy;
        stopped = false;
        for (int p = 0; p < MOST_POLICIES; p++) {
            progress[p] = 0;
        }
        return 0;
    }

    public int act(int sort, int argument) throws IllegalArgumentException, UnsupportedOperationException,
            IllegalStateException, ArithmeticException {
        if (!isSort(sort)) {
            throw new IllegalArgumentException("no such sort");
        }
        int end = stopped ? STOPPED : actAtDepth(sort, argument, 1);
        forgetSpent();
        if (end == ANSWERED) {
            return answer;
        }
        thrownCount++;
        if (end == STOPPED) {
            stopped = true;
            throw new UnsupportedOperationException("stopped");
        }
        if (end == FORBIDDEN) {
            throw new IllegalStateException("forbidden");
        }
        throw new ArithmeticException("too deep");
    }

    public int ask(int sort, int argument) throws IllegalArgumentException {
        if (!isSort(sort)) {
            throw new IllegalArgumentException("no such sort");
        }
        return kindOf(suggestNow(sort, argument));
    }

    public int detail(int sort, int argument, int what) throws IllegalArgumentException, IllegalStateException {
        if (!isSort(sort) || !isBelow(what, 3)) {
            throw new IllegalArgumentException("no such sort or what");
        }
        int suggestion = suggestNow(sort, argument);
        int wanted = what == 2 ? REPLACE : INSERT;
        if (kindOf(suggestion) != wanted) {
            throw new IllegalStateException("the suggestion is of another kind");
        }
        int source = sourceOf(suggestion);
        // An ANSWER holds its value where a PRELUDE holds its sort.
        return what == 1 ? operandC[source] : operandB[source];
    }

    public int total(int sort) throws IllegalArgumentException {
        if (!isSort(sort)) {
            throw new IllegalArgumentException("no such sort");
        }
        return totals[sort];
    }

    public int state(int policy) {
        if (!isPolicy(policy)) {
            return NONE;
        }
        boolean hasProgress = kinds[policy] == QUOTA || kinds[policy] == AUTOMATON;
        return hasProgress ? progress[policy] : NONE;
    }

    public int noted(int k) {
        if (!isBelow(k, NOTES_KEPT) || k >= noteCount) {
            return NONE;
        }
        return notes[Math.floorMod(noteCount - 1 - k, NOTES_KEPT)];
    }

    public int count(int what) {
        switch (what) {
            case 0:
                return policyCount;
            case 1:
                return noteCount;
            case 2:
                return doneCount;
            case 3:
                return replacedCount;
            case 4:
                return thrownCount;
            case 5:
                return stopped ? 1 : 0;
            case 6:
                return installed;
            default:
                return NONE;
        }
    }

    // ---- numbers and their ranges

    private static boolean isBelow(int number, int bound) {
        return 0 <= number && number < bound;
    }

    private static boolean isSort(int number) {
        return isBelow(number, SORTS);
    }

    private static boolean isSet(int number) {
        return isBelow(number, SETS);
    }

    private static boolean isTable(int number) {
        return isBelow(number, TABLES);
    }

    private boolean isPolicy(int number) {
        return isBelow(number, policyCount);
    }

    private static boolean inSet(int set, int sort) {
        return (set >> sort & 1) == 1;
    }

    private static int entryPlace(int k, int state, int sort) {
        return (k * STATES + state) * SORTS + sort;
    }

    // ---- making policies

    private static boolean isPair(int kind) {
        return kind == BOTH || kind == EITHER || kind == FIRST || kind == OVERRULE;
    }

    private static boolean hasPolicyA(int kind) {
        return isPair(kind) || kind == AUDIT || kind == TURN;
    }

    private static boolean hasPolicyB(int kind) {
        return isPair(kind) || kind == ONLY;
    }

    private boolean isAsSaid(int kind, int a, int b, int c) {
        switch (kind) {
            case ALLOW:
            case FORBID:
            case STOP:
            case ANSWER:
            case RANGE:
                return isSet(a);
            case QUOTA:
                return isSet(a) && isBelow(b, QUOTA_LIMIT);
            case PRELUDE:
                return isSet(a) && isSort(b);
            case AUTOMATON:
                return isTable(a);
            case BOTH:
            case EITHER:
            case FIRST:
            case OVERRULE:
                return isPolicy(a) && isPolicy(b);
            case ONLY:
                return isSet(a) && isPolicy(b);
            case AUDIT:
                return isPolicy(a);
            case TURN:
                return isPolicy(a) && canBeTurned(b) && (c == IRRELEVANT || canBeTurned(c));
            default:
                return false;
        }
    }

    private static boolean canBeTurned(int suggestionKind) {
        return suggestionKind == OK || suggestionKind == EXCEPTION || suggestionKind == HALT;
    }

    private boolean isTaken(int kind, int a, int b) {
        return hasPolicyA(kind) && used[a] || hasPolicyB(kind) && used[b] || isPair(kind) && a == b;
    }

    private int levelAbove(int kind, int a, int b) {
        int levelA = hasPolicyA(kind) ? levels[a] : 0;
        int levelB = hasPolicyB(kind) ? levels[b] : 0;
        return Math.max(levelA, levelB) + 1;
    }

    private int addPolicy(int kind, int a, int b, int c, int level) {
        int number = policyCount;
        kinds[number] = kind;
        operandA[number] = a;
        operandB[number] = b;
        operandC[number] = c;
        levels[number] = level;
        if (hasPolicyA(kind)) {
            used[a] = true;
        }
        if (hasPolicyB(kind)) {
            used[b] = true;
        }
        policyCount++;
        return number;
    }

    // ---- suggestions
    // A suggestion is one int, so that asking makes no objects: its kind, and for an INSERT or a REPLACE
    // the policy from which it came, which holds the action or the value.

    private static int suggestionFrom(int kind, int source) {
        return source * SUGGESTION_WIDTH + kind;
    }

    private static int kindOf(int suggestion) {
        return suggestion % SUGGESTION_WIDTH;
    }

    private static int sourceOf(int suggestion) {
        return suggestion / SUGGESTION_WIDTH;
    }

    private int suggestNow(int sort, int argument) {
        return installed == NONE ? IRRELEVANT : suggest(installed, sort, argument, false);
    }

    /** Goes no deeper than the policy's level, since operands are of lower levels. */
    private int suggest(int p, int sort, int argument, boolean noting) {
        switch (kinds[p]) {
            case BOTH:
            case EITHER:
            case FIRST:
            case OVERRULE:
                return suggestOfPair(p, sort, argument, noting);
            case ONLY:
                return inSet(operandA[p], sort) ? suggest(operandB[p], sort, argument, noting) : IRRELEVANT;
            case AUDIT:
                int seen = suggest(operandA[p], sort, argument, noting);
                if (noting && kindOf(seen) != IRRELEVANT) {
                    addNote(SORT_SHARE * kindOf(seen) + sort);
                }
                return seen;
            case TURN:
                int given = suggest(operandA[p], sort, argument, noting);
                return kindOf(given) == operandB[p] ? operandC[p] : given;
            case AUTOMATON:
                return suggestOfEntry(nextEntry(p, sort));
            default:
                return inSet(operandA[p], sort) ? suggestInSet(p, argument) : IRRELEVANT;
        }
    }

    private int suggestOfPair(int p, int sort, int argument, boolean noting) {
        int first = suggest(operandA[p], sort, argument, noting);
        boolean asksBoth = kinds[p] == BOTH || kinds[p] == EITHER;
        // An operand that need not be asked must not be: it could note something.
        if (!asksBoth && takesFirst(kinds[p], kindOf(first), IRRELEVANT)) {
            return first;
        }
        int second = suggest(operandB[p], sort, argument, noting);
        return takesFirst(kinds[p], kindOf(first), kindOf(second)) ? first : second;
    }

    private static boolean takesFirst(int pairKind, int first, int second) {
        switch (pairKind) {
            case BOTH:
                return first >= second;
            case EITHER:
                return second == IRRELEVANT || first != IRRELEVANT && first <= second;
            case FIRST:
                return first != IRRELEVANT;
            default:
                return first >= INSERT;
        }
    }

    private int nextEntry(int automaton, int sort) {
        return entries[entryPlace(operandA[automaton], progress[automaton], sort)];
    }

    private static int suggestOfEntry(int entry) {
        if (entry == ENTRY_IGNORES) {
            return IRRELEVANT;
        }
        return okOnlyIf(entry != ENTRY_FORBIDS);
    }

    private int suggestInSet(int p, int argument) {
        switch (kinds[p]) {
            case ALLOW:
                return OK;
            case FORBID:
                return EXCEPTION;
            case STOP:
                return HALT;
            case QUOTA:
                return okOnlyIf(progress[p] < operandB[p]);
            case ANSWER:
                return suggestionFrom(REPLACE, p);
            case PRELUDE:
                return spent[p] ? IRRELEVANT : suggestionFrom(INSERT, p);
            case RANGE:
                return okOnlyIf(operandB[p] <= argument && argument <= operandC[p]);
            default:
                return IRRELEVANT;
        }
    }

    private static int okOnlyIf(boolean fine) {
        return fine ? OK : EXCEPTION;
    }

    private void addNote(int number) {
        notes[Math.floorMod(noteCount, NOTES_KEPT)] = number;
        noteCount++;
    }

    // ---- accepting

    /** Goes no deeper than the policy's level, since operands are of lower levels. */
    private void accept(int p, int sort, int argument) {
        switch (kinds[p]) {
            case QUOTA:
                if (inSet(operandA[p], sort)) {
                    progress[p]++;
                }
                break;
            case AUTOMATON:
                step(p, sort);
                break;
            case BOTH:
                accept(operandA[p], sort, argument);
                accept(operandB[p], sort, argument);
                break;
            case EITHER:
            case FIRST:
            case OVERRULE:
                int first = kindOf(suggest(operandA[p], sort, argument, false));
                int second = kindOf(suggest(operandB[p], sort, argument, false));
                accept(takesFirst(kinds[p], first, second) ? operandA[p] : operandB[p], sort, argument);
                break;
            case ONLY:
                if (inSet(operandA[p], sort)) {
                    accept(operandB[p], sort, argument);
                }
                break;
            case AUDIT:
            case TURN:
                accept(operandA[p], sort, argument);
                break;
            default:
                break;
        }
    }

    private void step(int automaton, int sort) {
        int next = nextEntry(automaton, sort);
        if (isBelow(next, STATES)) {
            progress[automaton] = next;
        }
    }

    // ---- acting

    /** Says how the acting ended. It gives a code and throws nothing, so that act can tidy up after any end. */
    private int actAtDepth(int sort, int argument, int depth) {
        if (installed == NONE) {
            perform(sort, argument);
            return ANSWERED;
        }
        // Each round but the last spends one more PRELUDE, so there are never more rounds than this.
        for (int round = 0; round <= MOST_POLICIES; round++) {
            int suggestion = suggest(installed, sort, argument, true);
            if (kindOf(suggestion) != INSERT) {
                return follow(suggestion, sort, argument);
            }
            if (depth >= DEEPEST) {
                return TOO_DEEP;
            }
            int prelude = sourceOf(suggestion);
            spent[prelude] = true;
            int end = actAtDepth(operandB[prelude], operandC[prelude], depth + 1);
            if (end != ANSWERED) {
                return end;
            }
        }
        return TOO_DEEP;
    }

    /** Follows a suggestion that is no INSERT. */
    private int follow(int suggestion, int sort, int argument) {
        switch (kindOf(suggestion)) {
            case REPLACE:
                answer = operandB[sourceOf(suggestion)];
                replacedCount++;
                return ANSWERED;
            case EXCEPTION:
                return FORBIDDEN;
            case HALT:
                return STOPPED;
            default:
                accept(installed, sort, argument);
                perform(sort, argument);
                return ANSWERED;
        }
    }

    private void perform(int sort, int argument) {
        totals[sort] += argument;
        doneCount++;
        answer = totals[sort];
    }

    private void forgetSpent() {
        for (int p = 0; p < MOST_POLICIES; p++) {
            spent[p] = false;
        }
    }
}
