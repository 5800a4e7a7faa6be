/** Promise 1. */
public final class NewObjectTest {
    public static void main(String[] args) {
        Check check = new Check();
        PolicyMonitor x = new PolicyMonitor();
        int[] counts = {0, 0, 0, 0, 0, 0, -1};
        for (int what = 0; what < counts.length; what++) {
            check.is("count(" + what + ")", x.count(what), counts[what]);
        }
        for (int sort = 0; sort < 8; sort++) {
            check.is("total(" + sort + ")", x.total(sort), 0);
            check.is("ask(" + sort + ", 1)", x.ask(sort, 1), 0);
        }
        check.is("noted(0)", x.noted(0), -1);
        check.is("state(0)", x.state(0), -1);
        for (int k = 0; k < 3; k++) {
            for (int state = 0; state < 4; state++) {
                for (int sort = 0; sort < 8; sort++) {
                    check.is("an entry", x.table(k, state, sort, 5), 5);
                }
            }
        }
        checkThatObjectsAreApart(check);
        check.end();
    }

    private static void checkThatObjectsAreApart(Check check) {
        PolicyMonitor x = new PolicyMonitor();
        PolicyMonitor y = new PolicyMonitor();
        x.table(0, 0, 0, 1);
        x.policy(Kinds.ALLOW, 1, 0, 0);
        x.install(0);
        x.act(0, 4);
        check.is("the other's table", y.table(0, 0, 0, 5), 5);
        check.is("the other's count(0)", y.count(0), 0);
        check.is("the other's count(6)", y.count(6), -1);
        check.is("the other's total(0)", y.total(0), 0);
    }
}
