/** Promise 5: refuse. */
public final class RefuseTest {
    public static void main(String[] args) {
        votesNoAndFreesLocks();
        closedOrNot();
        wrongInputs();
        onlyWhereItWorks();
        Checks.end();
    }

    private static void votesNoAndFreesLocks() {
        Checks.about("refuse: It is ABORTED, and a VOTE NO of BALLOT 0 for it is SENT TO ALL"
            + " ACCEPTORS. Answers how many KEYS it WROTE");
        Run x = Checks.begun(1, 2);
        x.write(0, 1, 2, 5);
        x.begin();
        x.write(1, 1, 3, 5);
        Checks.due("keys", x.refuse(0, 1), 2);
        Checks.due("net", Checks.net(x), "Vt0s1a0b0N Vt0s1a1b0N Vt0s1a2b0N");
        Checks.due("aborted", x.state(0, 1), 4);
        Checks.due("the other works", x.state(0, 0), 1);
        Checks.due("lock gone", x.lock(1, 0), -1);
        Checks.due("lock gone", x.lock(1, 2), -1);
        Checks.due("another's lock", x.lock(1, 3), 1);
        Checks.due("lock of another store", x.lock(0, 0), 0);
        Run y = Checks.begun(0, 1);
        y.write(0, 0, 0, 99);
        Checks.due("one key, written twice", y.refuse(0, 0), 1);
        Checks.due("one acceptor", Checks.net(y), "Vt0s0a0b0N");
    }

    private static void closedOrNot() {
        Checks.about("refuse: it is WORKING, CLOSED or not");
        Run x = Checks.closed(0, 1);
        Checks.due("closed", x.refuse(0, 0), 1);
        Checks.settle(x);
        Checks.due("abort", x.outcome(0, 0), 1);
        Run y = Checks.begun(0, 2);
        y.refuse(0, 0);
        Checks.settle(y);
        Checks.due("abort without a request", y.outcome(1, 0), 1);
        Checks.due("the other is aborted by the outcome", y.state(0, 1), 4);
    }

    private static void wrongInputs() {
        Checks.about("refuse: The STORE is not UP: IllegalStateException");
        Run x = new Run(1);
        x.up(Checks.STORE, 0, false);
        int[][] wrong = {{-1, 0}, {8, 0}, {0, -1}, {0, 3}, {7, 3}};
        for (int[] w : wrong) {
            Checks.dueThrow("range", Checks.ARGUMENT, () -> x.refuse(w[0], w[1]));
        }
        Checks.dueThrow("no such", Checks.NO_SUCH, () -> x.refuse(0, 0));
        x.begin();
        Checks.dueThrow("down before not working", Checks.STATE, () -> x.refuse(0, 0));
        Checks.dueThrow("not working", Checks.UNSUPPORTED, () -> x.refuse(0, 1));
        x.up(Checks.STORE, 0, true);
        x.write(0, 0, 0, 1);
        x.write(0, 0, 1, 1);
        x.write(0, 0, 2, 1);
        x.write(0, 0, 3, 1);
        Checks.due("up and working, all keys", x.refuse(0, 0), 4);
    }

    private static void onlyWhereItWorks() {
        Checks.about("refuse: it is not WORKING: UnsupportedOperationException");
        Run x = Checks.requested(0, 2);
        Checks.bring(x, "Pt0s0");
        String before = x.all();
        Checks.dueThrow("prepared", Checks.UNSUPPORTED, () -> x.refuse(0, 0));
        Checks.dueThrow("none", Checks.UNSUPPORTED, () -> x.refuse(0, 2));
        Checks.due("all is as before", x.all(), before);
        Checks.settle(x);
        Checks.due("committed", x.state(0, 0), 3);
        Checks.dueThrow("committed", Checks.UNSUPPORTED, () -> x.refuse(0, 0));
        Run y = Checks.begun(1, 1);
        y.refuse(0, 0);
        Checks.dueThrow("aborted", Checks.UNSUPPORTED, () -> y.refuse(0, 0));
        Checks.due("no more votes", y.count(0), 3);
    }
}
