/** Promise 2: begin. */
public final class BeginTest {
    public static void main(String[] args) {
        PaxosCommit x = new PaxosCommit(1);
        for (int t = 0; t < 8; t++) {
            int number = t;
            Checks.dueThrow("state before begin " + t, Checks.NO_SUCH, () -> x.state(number, 0));
            Checks.due("begin", x.begin(), t);
            Checks.due("transactions", x.count(2), t + 1);
            Checks.due("state after begin", x.state(t, 2), 0);
        }
        String before = Checks.all(x);
        Checks.dueThrow("the ninth begin", Checks.STATE, () -> x.begin());
        Checks.dueThrow("the tenth begin", Checks.STATE, () -> x.begin());
        Checks.due("a begin that throws changes nothing", Checks.all(x), before);
        Checks.dueThrow("a new transaction has no members", Checks.STATE, () -> x.request(7));
        Checks.end();
    }
}
