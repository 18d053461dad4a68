/** Promise 16: count. */
public final class CountTest {
    public static void main(String[] args) {
        PaxosCommit x = new PaxosCommit(1);
        int[] first = {0, 0, 0, 3, 7, 7, 3};
        for (int what = 0; what < 7; what++) {
            Checks.due("at first " + what, x.count(what), first[what]);
        }
        x.up(Checks.STORE, 0, false);
        x.up(Checks.STORE, 2, false);
        x.up(Checks.ACCEPTOR, 1, false);
        x.up(Checks.LEADER, 0, false);
        Checks.due("stores", x.count(4), 2);
        Checks.due("acceptors", x.count(5), 5);
        Checks.due("leaders", x.count(6), 2);
        x.begin();
        x.begin();
        Checks.due("transactions", x.count(2), 2);
        x.write(0, 1, 1, 1);
        x.request(0);
        Checks.due("messages", x.count(0), 1);
        Checks.due("n", x.count(3), 3);
        Checks.dueThrow("below", Checks.ARGUMENT, () -> x.count(-1));
        Checks.dueThrow("above", Checks.ARGUMENT, () -> x.count(7));
        fullNet();
        Checks.end();
    }

    private static void fullNet() {
        PaxosCommit x = Checks.requested(1, 1);
        for (int i = 0; i < 19; i++) {
            x.take(0, 0);
        }
        Checks.due("messages", x.count(0), 58);
        Checks.due("lost", x.count(1), 0);
        x.take(0, 0);
        Checks.due("messages", x.count(0), 60);
        Checks.due("lost", x.count(1), 1);
        Checks.due("the last that went in", Checks.textOf(x, 59), "At0a1b40");
        x.take(0, 0);
        Checks.due("messages", x.count(0), 60);
        Checks.due("lost", x.count(1), 4);
        x.lose(0);
        Checks.due("messages", x.count(0), 59);
        Checks.due("lost", x.count(1), 4);
    }
}
