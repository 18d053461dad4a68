/** Promises 11 to 13: value, lock and state. */
public final class ValueLockStateTest {
    public static void main(String[] args) {
        commitShowsValues();
        abortShowsNone();
        laterCommitsOverwrite();
        lockOfTransactionZero();
        wrongInputs();
        Checks.end();
    }

    private static void commitShowsValues() {
        Checks.about("value, lock, state: The VALUE of a KEY; The TRANSACTION that has the LOCK"
            + " of a KEY, -1 if none; The STATE of a STORE for a TRANSACTION");
        Run x = Checks.begun(1, 2);
        x.write(0, 1, 3, -4);
        Checks.due("state", x.state(0, 1), 1);
        x.request(0);
        Checks.due("state", x.state(0, 1), 1);
        x.deliver(1, false);
        Checks.due("state", x.state(0, 1), 2);
        Checks.due("value", x.value(1, 3), 0);
        Checks.due("lock", x.lock(1, 3), 0);
        Checks.settle(x);
        Checks.due("state", x.state(0, 0), 3);
        Checks.due("state", x.state(0, 1), 3);
        Checks.due("state", x.state(0, 2), 0);
        Checks.due("value", x.value(0, 0), 10);
        Checks.due("value", x.value(1, 0), 11);
        Checks.due("value", x.value(1, 3), -4);
        Checks.due("value", x.value(0, 3), 0);
        Checks.due("lock", x.lock(0, 0), -1);
        Checks.due("lock", x.lock(1, 0), -1);
        Checks.due("lock", x.lock(1, 3), -1);
    }

    private static void abortShowsNone() {
        Checks.about("value: The VALUE of a KEY (of one that was written in vain)");
        Run x = Checks.begun(1, 2);
        x.request(0);
        x.refuse(0, 1);
        Checks.settle(x);
        Checks.due("state", x.state(0, 0), 4);
        Checks.due("state", x.state(0, 1), 4);
        Checks.due("value", x.value(0, 0), 0);
        Checks.due("value", x.value(1, 0), 0);
        Checks.due("lock", x.lock(0, 0), -1);
    }

    private static void laterCommitsOverwrite() {
        Checks.about("value: The VALUE of a KEY (written twice)");
        Run x = Checks.requested(0, 1);
        Checks.settle(x);
        x.begin();
        x.write(1, 0, 0, 99);
        x.write(1, 0, 1, 98);
        Checks.due("lock", x.lock(0, 0), 1);
        x.request(1);
        Checks.settle(x);
        Checks.due("value", x.value(0, 0), 99);
        Checks.due("value", x.value(0, 1), 98);
        Checks.due("state of the first", x.state(0, 0), 3);
        x.begin();
        x.write(2, 0, 1, 0);
        x.request(2);
        Checks.settle(x);
        Checks.due("a key not written keeps its value", x.value(0, 0), 99);
        Checks.due("a key written with 0", x.value(0, 1), 0);
        x.up(Checks.STORE, 0, false);
        Checks.due("value of a store that is down", x.value(0, 0), 99);
    }

    private static void lockOfTransactionZero() {
        Checks.about("lock: The TRANSACTION that has the LOCK of a KEY, -1 if none");
        Run x = new Run(1);
        for (int t = 0; t < 8; t++) {
            x.begin();
        }
        Checks.due("none", x.lock(1, 0), -1);
        x.write(0, 1, 0, 5);
        x.write(7, 1, 3, 5);
        Checks.due("the first", x.lock(1, 0), 0);
        Checks.due("the last", x.lock(1, 3), 7);
        x.refuse(0, 1);
        Checks.due("none again", x.lock(1, 0), -1);
        Checks.due("the last", x.lock(1, 3), 7);
    }

    private static void wrongInputs() {
        Checks.about("value, lock, state: IllegalArgumentException, then NoSuchElementException");
        Run x = new Run(1);
        int[][] wrong = {{-1, 0}, {3, 0}, {0, -1}, {0, 4}};
        for (int[] w : wrong) {
            Checks.dueThrow("value", Checks.ARGUMENT, () -> x.value(w[0], w[1]));
            Checks.dueThrow("lock", Checks.ARGUMENT, () -> x.lock(w[0], w[1]));
        }
        int[][] wrongToo = {{-1, 0}, {8, 0}, {0, -1}, {0, 3}, {7, 3}};
        for (int[] w : wrongToo) {
            Checks.dueThrow("state", Checks.ARGUMENT, () -> x.state(w[0], w[1]));
        }
        Checks.dueThrow("state", Checks.NO_SUCH, () -> x.state(0, 0));
        Checks.dueThrow("state", Checks.NO_SUCH, () -> x.state(7, 2));
        x.begin();
        Checks.due("state", x.state(0, 2), 0);
        Checks.dueThrow("state", Checks.NO_SUCH, () -> x.state(1, 2));
    }
}
