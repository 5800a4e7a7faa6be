/** Promise 8. */
public final class TotalTest {
    public static void main(String[] args) {
        Check check = new Check();
        checkTotals(check);
        checkNoSuchSort(check);
        checkWhatIsNotDone(check);
        check.end();
    }

    private static void checkTotals(Check check) {
        PolicyMonitor x = new PolicyMonitor();
        for (int sort = 0; sort < 8; sort++) {
            x.act(sort, 10 + sort);
            x.act(sort, -100);
        }
        for (int round = 0; round < 2; round++) {
            for (int sort = 0; sort < 8; sort++) {
                int s = sort;
                check.gives("total(" + sort + ")", () -> x.total(s), sort - 90);
            }
        }
        x.act(0, Integer.MIN_VALUE);
        check.is("total(0) wraps", x.total(0), -90 + Integer.MIN_VALUE);
        check.is("total(1) does not", x.total(1), -89);
        x.policy(Kinds.ALLOW, 1, 0, 0);
        x.install(0);
        check.is("total(7) after install", x.total(7), -83);
    }

    /** 'IllegalArgumentException: no such sort.' */
    private static void checkNoSuchSort(Check check) {
        PolicyMonitor x = new PolicyMonitor();
        int[] wrong = {Integer.MIN_VALUE, -8, -1, 8, 9, Integer.MAX_VALUE};
        for (int round = 0; round < 2; round++) {
            for (int sort : wrong) {
                check.refused("total(" + sort + ")", () -> x.total(sort));
            }
            check.gives("total(0)", () -> x.total(0), 4 * round);
            check.gives("total(7)", () -> x.total(7), 5 * round);
            x.act(0, 4);
            x.act(7, 5);
        }
    }

    /** Only DOING adds to a TOTAL. */
    private static void checkWhatIsNotDone(Check check) {
        for (int kind = Kinds.REPLACE; kind <= Kinds.HALT; kind++) {
            PolicyMonitor x = new PolicyMonitor();
            x.act(0, 6);
            Kinds.suggesting(x, kind, 1, 50);
            x.install(0);
            try {
                x.act(0, 7);
            } catch (RuntimeException e) {
                // Only the TOTAL matters here.
            }
            check.is("total(0) after an end by " + kind, x.total(0), 6);
        }
    }
}
