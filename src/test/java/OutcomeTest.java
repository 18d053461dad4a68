/** Promise 14: outcome. */
public final class OutcomeTest {
    public static void main(String[] args) {
        commit();
        abort();
        eachLeaderForItself();
        wrongInputs();
        Checks.end();
    }

    private static void commit() {
        Checks.about("outcome: 0 COMMIT");
        Run x = Checks.requested(1, 3);
        Checks.settle(x);
        Checks.due("leader 0", x.outcome(0, 0), 0);
        Checks.due("leader 1", x.outcome(1, 0), 0);
    }

    private static void abort() {
        Checks.about("outcome: 1 ABORT");
        Run x = Checks.requested(1, 3);
        x.up(Checks.STORE, 2, false);
        x.up(Checks.STORE, 2, true);
        Checks.settle(x);
        Checks.due("leader 0", x.outcome(0, 0), 1);
        Checks.due("leader 1", x.outcome(1, 0), 1);
        Checks.due("all abort", x.state(0, 0), 4);
    }

    private static void eachLeaderForItself() {
        Checks.about("outcome: What a LEADER KNOWS");
        Run x = Checks.requested(0, 1);
        x.begin();
        Checks.bring(x, "Pt0s0", "Vt0s0a0b0Y", "Tt0s0a0l1b0Y");
        Checks.due("leader 1", x.outcome(1, 0), 0);
        Checks.dueThrow("leader 0", Checks.STATE, () -> x.outcome(0, 0));
        Checks.dueThrow("another", Checks.STATE, () -> x.outcome(1, 1));
    }

    private static void wrongInputs() {
        Checks.about("outcome: nothing: IllegalStateException");
        Run x = new Run(1);
        int[][] wrong = {{-1, 0}, {2, 0}, {0, -1}, {0, 8}, {2, 7}};
        for (int[] w : wrong) {
            Checks.dueThrow("range", Checks.ARGUMENT, () -> x.outcome(w[0], w[1]));
        }
        Checks.dueThrow("no such", Checks.NO_SUCH, () -> x.outcome(0, 0));
        x.begin();
        Checks.dueThrow("nothing", Checks.STATE, () -> x.outcome(0, 0));
        Checks.dueThrow("no such", Checks.NO_SUCH, () -> x.outcome(0, 1));
    }
}
