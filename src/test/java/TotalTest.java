/** Promise 8. */
public final class TotalTest {
    public static void main(String[] args) {
        Check check = new Check();
        PolicyMonitor x = new PolicyMonitor();
        int[] wrong = {Integer.MIN_VALUE, -1, 8, Integer.MAX_VALUE};
        for (int sort : wrong) {
            check.refused("total(" + sort + ")", () -> x.total(sort));
        }
        for (int sort = 0; sort < 8; sort++) {
            x.act(sort, 10 + sort);
            x.act(sort, -100);
        }
        for (int sort = 0; sort < 8; sort++) {
            int s = sort;
            check.gives("total(" + sort + ")", () -> x.total(s), sort - 90);
        }
        x.act(0, Integer.MIN_VALUE);
        check.is("total(0) wraps", x.total(0), -90 + Integer.MIN_VALUE);
        x.policy(Kinds.ALLOW, 1, 0, 0);
        x.install(0);
        check.is("total(7) after install", x.total(7), -83);
        check.end();
    }
}
