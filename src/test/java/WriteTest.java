/** Promise 3: write. */
public final class WriteTest {
    public static void main(String[] args) {
        countsKeysOfOneStore();
        holdsLocks();
        lastValueCounts();
        wrongNumbersComeFirst();
        lockAndStoreBeforeClosed();
        statesThatTakeNoWrites();
        throwsChangeNothing();
        Checks.end();
    }

    private static void countsKeysOfOneStore() {
        PaxosCommit x = new PaxosCommit(1);
        x.begin();
        Checks.due("first key", x.write(0, 1, 0, 7), 1);
        Checks.due("second key", x.write(0, 1, 3, 0), 2);
        Checks.due("a key again", x.write(0, 1, 0, 8), 2);
        Checks.due("another store", x.write(0, 2, 0, 8), 1);
        Checks.due("third key", x.write(0, 1, 1, 1), 3);
        Checks.due("fourth key", x.write(0, 1, 2, 1), 4);
        Checks.due("working", x.state(0, 1), 1);
        Checks.due("not written", x.state(0, 0), 0);
        Checks.due("no value yet", x.value(1, 0), 0);
        Checks.due("two members", x.request(0), 2);
    }

    private static void holdsLocks() {
        PaxosCommit x = new PaxosCommit(1);
        x.begin();
        x.begin();
        x.write(1, 0, 2, 5);
        Checks.due("lock", x.lock(0, 2), 1);
        Checks.due("other key", x.lock(0, 1), -1);
        Checks.due("other store", x.lock(1, 2), -1);
        Checks.dueThrow("locked", Checks.STATE, () -> x.write(0, 0, 2, 5));
        Checks.due("no member by that", x.state(0, 0), 0);
        Checks.due("a free key of the same store", x.write(0, 0, 3, 5), 1);
        Checks.due("the same key of another store", x.write(0, 1, 2, 5), 1);
    }

    private static void lastValueCounts() {
        PaxosCommit x = new PaxosCommit(0);
        x.begin();
        x.write(0, 0, 0, Integer.MIN_VALUE);
        x.write(0, 0, 1, 4);
        x.write(0, 0, 1, Integer.MAX_VALUE);
        x.request(0);
        Checks.settle(x);
        Checks.due("value", x.value(0, 0), Integer.MIN_VALUE);
        Checks.due("last value", x.value(0, 1), Integer.MAX_VALUE);
        Checks.due("key not written", x.value(0, 2), 0);
    }

    private static void wrongNumbersComeFirst() {
        PaxosCommit x = new PaxosCommit(1);
        x.up(Checks.STORE, 0, false);
        int[][] wrong = {{-1, 0, 0}, {8, 0, 0}, {0, -1, 0}, {0, 3, 0}, {0, 0, -1}, {0, 0, 4},
            {Integer.MIN_VALUE, 0, 0}, {Integer.MAX_VALUE, 0, 0}, {7, 3, 0}, {7, 0, 4}};
        for (int[] w : wrong) {
            Checks.dueThrow("range", Checks.ARGUMENT, () -> x.write(w[0], w[1], w[2], 0));
        }
        Checks.dueThrow("no such", Checks.NO_SUCH, () -> x.write(0, 0, 0, 0));
        Checks.dueThrow("no such", Checks.NO_SUCH, () -> x.write(7, 2, 3, 0));
        x.begin();
        Checks.dueThrow("the next one", Checks.NO_SUCH, () -> x.write(1, 1, 1, 0));
        Checks.dueThrow("store down", Checks.STATE, () -> x.write(0, 0, 0, 0));
        Checks.due("store up", x.write(0, 2, 3, 0), 1);
    }

    private static void lockAndStoreBeforeClosed() {
        PaxosCommit x = Checks.requested(1, 1);
        x.begin();
        x.write(1, 1, 1, 5);
        Checks.dueThrow("closed", Checks.UNSUPPORTED, () -> x.write(0, 0, 0, 1));
        Checks.dueThrow("closed, a new store", Checks.UNSUPPORTED, () -> x.write(0, 2, 0, 1));
        Checks.dueThrow("closed and locked", Checks.STATE, () -> x.write(0, 1, 1, 1));
        x.up(Checks.STORE, 2, false);
        Checks.dueThrow("closed and down", Checks.STATE, () -> x.write(0, 2, 0, 1));
    }

    private static void statesThatTakeNoWrites() {
        PaxosCommit x = Checks.begun(1, 2);
        x.refuse(0, 0);
        Checks.dueThrow("aborted", Checks.UNSUPPORTED, () -> x.write(0, 0, 1, 1));
        Checks.due("the other store works on", x.write(0, 1, 1, 1), 2);
        x.begin();
        x.write(1, 0, 1, 1);
        Checks.dueThrow("aborted and locked", Checks.STATE, () -> x.write(0, 0, 1, 1));
    }

    private static void throwsChangeNothing() {
        PaxosCommit x = Checks.begun(1, 2);
        x.begin();
        x.write(1, 0, 1, 1);
        x.refuse(0, 1);
        String before = Checks.all(x);
        Checks.dueThrow("locked", Checks.STATE, () -> x.write(0, 0, 1, 1));
        Checks.dueThrow("aborted", Checks.UNSUPPORTED, () -> x.write(0, 1, 1, 1));
        Checks.dueThrow("range", Checks.ARGUMENT, () -> x.write(0, 2, 4, 1));
        Checks.dueThrow("no such", Checks.NO_SUCH, () -> x.write(2, 2, 3, 1));
        Checks.due("all is as before", Checks.all(x), before);
        Checks.due("members are as before", x.request(0), 2);
    }
}
