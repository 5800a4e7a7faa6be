import java.util.ArrayDeque;
import java.util.ArrayList;
import java.util.Arrays;
import java.util.Deque;
import java.util.List;
import java.util.Random;

/** Mixed runs of up to 512 calls, the same at every time, compared with Model; wrong inputs among them. */
public final class ModelTest {
    private static final int RUNS = 3000;
    private static final int CALLS = 512;
    private static final int SHOWN = 20;

    private final Check check = new Check();
    private final int[] ends = new int[5];
    private int wrongRuns;

    public static void main(String[] args) {
        ModelTest test = new ModelTest();
        for (int seed = 0; seed < RUNS && test.wrongRuns < SHOWN; seed++) {
            test.run(seed);
        }
        test.checkThatRunsReachAll();
        test.check.end();
    }

    private void run(int seed) {
        Random random = new Random(seed);
        PolicyMonitor x = new PolicyMonitor();
        Model y = new Model();
        List<int[]> tree = seed % 3 == 0 ? preludeTree(random) : new ArrayList<>();
        int making = tree.isEmpty() ? 20 + random.nextInt(60) : tree.size();
        int wildness = random.nextInt(4) == 0 ? 10 : 40;
        for (int i = 0; i < CALLS; i++) {
            int[] call = i < tree.size() ? tree.get(i)
                    : i < making ? makingCall(random, y, wildness) : usingCall(random, y, wildness);
            String got = answer(() -> onProgram(x, call));
            String due = answer(() -> onModel(y, call));
            if (call[0] == 3) {
                ends[endOf(due)]++;
            }
            if (!got.equals(due)) {
                check.tell("seed " + seed + ", call " + i + ", " + Arrays.toString(call)
                        + " answered " + got + ", due is " + due);
                wrongRuns++;
                return;
            }
        }
    }

    private static int endOf(String answer) {
        switch (answer) {
            case "IllegalArgumentException":
                return 1;
            case "UnsupportedOperationException":
                return 2;
            case "IllegalStateException":
                return 3;
            case "ArithmeticException":
                return 4;
            default:
                return 0;
        }
    }

    /** Runs that never go too deep, say, would compare little. */
    private void checkThatRunsReachAll() {
        for (int end = 0; end < ends.length; end++) {
            if (wrongRuns == 0 && ends[end] < 100) {
                check.tell("acts of the end " + end + " were made " + ends[end] + " times only");
            }
        }
    }

    private static String answer(Check.Call call) {
        try {
            return Integer.toString(call.answer());
        } catch (RuntimeException e) {
            return e.getClass().getSimpleName();
        }
    }

    private static int wild(Random random) {
        int[] numbers = {Integer.MIN_VALUE, -1, 3, 8, 16, 40, 100, 256, Integer.MAX_VALUE};
        return numbers[random.nextInt(numbers.length)];
    }

    private static int number(Random random, int bound, int wildness) {
        return random.nextInt(wildness) == 0 ? wild(random) : random.nextInt(Math.max(1, bound));
    }

    private static int set(Random random, int wildness) {
        return random.nextInt(3) == 0 ? number(random, 256, wildness) : 1 << random.nextInt(8);
    }

    /** Calls that put many PRELUDES under one policy and install it: what is made at random rarely goes too deep. */
    private static List<int[]> preludeTree(Random random) {
        List<int[]> calls = new ArrayList<>();
        Deque<Integer> tops = new ArrayDeque<>();
        int leaves = 4 + random.nextInt(14);
        for (int i = 0; i < leaves; i++) {
            int kind = random.nextInt(4) == 0 ? Kinds.QUOTA : Kinds.PRELUDE;
            tops.add(calls.size());
            calls.add(new int[] {1, kind, 1 << random.nextInt(8) | 1 << random.nextInt(8), random.nextInt(8),
                random.nextInt(9)});
        }
        while (tops.size() > 1) {
            int a = tops.remove();
            int b = tops.remove();
            tops.add(calls.size());
            calls.add(new int[] {1, Kinds.BOTH + random.nextInt(4), a, b, 0});
        }
        calls.add(new int[] {1, Kinds.AUDIT, tops.remove(), 0, 0});
        calls.add(new int[] {2, calls.size() - 1});
        return calls;
    }

    private static int[] makingCall(Random random, Model y, int wildness) {
        int made = y.count(0);
        if (random.nextInt(5) == 0) {
            return new int[] {0, number(random, 3, wildness), number(random, 4, wildness),
                number(random, 8, wildness), number(random, 6, wildness)};
        }
        int kind = random.nextInt(made < 2 ? 8 : 15);
        if (random.nextInt(6) == 0) {
            kind = 5;
        }
        int[] call = {1, random.nextInt(wildness) == 0 ? wild(random) : kind, 0, 0, random.nextInt(21) - 10};
        boolean overSet = kind <= 5 || kind == 7 || kind == 12;
        // The newest are the likeliest not to be used already.
        call[2] = overSet ? set(random, wildness) : kind == 6 ? number(random, 3, wildness)
                : made - 1 - number(random, Math.min(made, 6), wildness);
        call[3] = kind >= 8 && kind <= 12 ? made - 1 - number(random, Math.min(made, 6), wildness)
                : number(random, kind == 3 ? 6 : 8, wildness);
        if (kind == 7) {
            call[3] = -random.nextInt(10);
        }
        if (kind == 14 && random.nextInt(4) != 0) {
            int[] turned = {1, 4, 5, 0};
            call[3] = turned[random.nextInt(3)];
            call[4] = turned[random.nextInt(4)];
        }
        return call;
    }

    private static int[] usingCall(Random random, Model y, int wildness) {
        int sort = number(random, 8, wildness);
        int argument = random.nextInt(8) == 0 ? wild(random) : random.nextInt(25) - 12;
        switch (random.nextInt(16)) {
            case 0:
                return random.nextInt(3) == 0 ? makingCall(random, y, wildness)
                    : new int[] {2, y.count(0) - 1 - number(random, Math.min(8, y.count(0)), wildness)};
            case 1:
            case 2:
                return new int[] {4, sort, argument};
            case 3:
                return new int[] {5, sort, argument, number(random, 3, wildness)};
            case 4:
                return new int[] {6, sort};
            case 5:
            case 6:
                return new int[] {7, number(random, y.count(0), wildness)};
            case 7:
                return new int[] {8, number(random, 16, wildness)};
            case 8:
                return new int[] {9, number(random, 7, wildness)};
            default:
                return new int[] {3, sort, argument};
        }
    }

    private static int onProgram(PolicyMonitor x, int[] call) {
        switch (call[0]) {
            case 0:
                return x.table(call[1], call[2], call[3], call[4]);
            case 1:
                return x.policy(call[1], call[2], call[3], call[4]);
            case 2:
                return x.install(call[1]);
            case 3:
                return x.act(call[1], call[2]);
            case 4:
                return x.ask(call[1], call[2]);
            case 5:
                return x.detail(call[1], call[2], call[3]);
            case 6:
                return x.total(call[1]);
            case 7:
                return x.state(call[1]);
            case 8:
                return x.noted(call[1]);
            default:
                return x.count(call[1]);
        }
    }

    private static int onModel(Model y, int[] call) {
        switch (call[0]) {
            case 0:
                return y.table(call[1], call[2], call[3], call[4]);
            case 1:
                return y.policy(call[1], call[2], call[3], call[4]);
            case 2:
                return y.install(call[1]);
            case 3:
                return y.act(call[1], call[2]);
            case 4:
                return y.ask(call[1], call[2]);
            case 5:
                return y.detail(call[1], call[2], call[3]);
            case 6:
                return y.total(call[1]);
            case 7:
                return y.state(call[1]);
            case 8:
                return y.noted(call[1]);
            default:
                return y.count(call[1]);
        }
    }
}
