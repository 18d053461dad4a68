/** Promise 3: write. */
public final class WriteTest {
    public static void main(String[] args) {
        countsKeysOfOneStore();
        worksAndIsAMember();
        storeNotUp();
        holdsLocks();
        locksComeFree();
        lastValueCounts();
        wrongNumbersComeFirst();
        lockAndStoreBeforeClosed();
        statesThatTakeNoWrites();
        throwsChangeNothing();
        Checks.end();
    }

    private static void countsKeysOfOneStore() {
        Checks.about("write: Answers how many KEYS it WRITES there");
        Run x = new Run(1);
        x.begin();
        Checks.due("first key", x.write(0, 1, 0, 7), 1);
        Checks.due("second key", x.write(0, 1, 3, 0), 2);
        Checks.due("a key again", x.write(0, 1, 0, 8), 2);
        Checks.due("another store", x.write(0, 2, 0, 8), 1);
        Checks.due("third key", x.write(0, 1, 1, 1), 3);
        Checks.due("fourth key", x.write(0, 1, 2, 1), 4);
        Checks.due("working", x.state(0, 1), 1);
        Checks.due("not written", x.state(0, 0), 0);
        Checks.due("no value yet", x.value(1, 0), 0);
        Checks.due("two members", x.request(0), 2);
    }

    private static void worksAndIsAMember() {
        Checks.about("write: The STORE is WORKING and a MEMBER, the TRANSACTION has the LOCK");
        Run x = new Run(1);
        x.begin();
        x.write(0, 2, 3, 0);
        Checks.due("working", x.state(0, 2), 1);
        Checks.due("lock", x.lock(2, 3), 0);
        Checks.due("no other lock", x.lock(2, 2), -1);
        x.write(0, 2, 3, 1);
        x.write(0, 2, 0, 1);
        x.write(0, 0, 0, 1);
        Checks.due("a store is a member once", x.request(0), 2);
        Checks.due("members", Checks.net(x), "Pt0s0 Pt0s2");
    }

    private static void storeNotUp() {
        Checks.about("write: The STORE is not UP: IllegalStateException");
        Run x = Checks.begun(1, 1);
        x.begin();
        x.up(Checks.STORE, 0, false);
        Checks.dueThrow("it was working", Checks.STATE, () -> x.write(0, 0, 1, 1));
        Checks.dueThrow("it was not", Checks.STATE, () -> x.write(1, 0, 1, 1));
        Checks.due("no lock by that", x.lock(0, 1), -1);
        Checks.due("another store", x.write(1, 1, 1, 1), 1);
        x.up(Checks.STORE, 0, true);
        Checks.dueThrow("up, but aborted", Checks.UNSUPPORTED, () -> x.write(0, 0, 1, 1));
        Checks.due("up, and none", x.write(1, 0, 1, 1), 1);
    }

    private static void locksComeFree() {
        Checks.about("write: another TRANSACTION has the LOCK (until it has not)");
        Run x = Checks.requested(0, 2);
        x.begin();
        Checks.dueThrow("working", Checks.STATE, () -> x.write(1, 0, 0, 1));
        Checks.bring(x, "Pt0s0", "Pt0s1");
        Checks.dueThrow("prepared", Checks.STATE, () -> x.write(1, 0, 0, 1));
        Checks.bring(x, "Vt0s0a0b0Y", "Vt0s1a0b0Y", "Tt0s0a0l0b0Y", "Tt0s1a0l0b0Y", "Ot0s0Y");
        Checks.due("committed", x.write(1, 0, 0, 1), 1);
        Checks.dueThrow("prepared at another store", Checks.STATE, () -> x.write(1, 1, 0, 1));
        x.begin();
        Checks.dueThrow("locked anew", Checks.STATE, () -> x.write(2, 0, 0, 1));
        x.refuse(1, 0);
        Checks.due("aborted", x.write(2, 0, 0, 1), 1);
        Checks.due("lock", x.lock(0, 0), 2);
        Checks.due("its own lock", x.write(2, 0, 0, 2), 1);
    }

    private static void holdsLocks() {
        Checks.about("write: another TRANSACTION has the LOCK: IllegalStateException");
        Run x = new Run(1);
        x.begin();
        x.begin();
        x.write(1, 0, 2, 5);
        Checks.due("lock", x.lock(0, 2), 1);
        Checks.due("other key", x.lock(0, 1), -1);
        Checks.due("other store", x.lock(1, 2), -1);
        Checks.dueThrow("locked", Checks.STATE, () -> x.write(0, 0, 2, 5));
        Checks.due("no member by that", x.state(0, 0), 0);
        Checks.due("a free key of the same store", x.write(0, 0, 3, 5), 1);
        Checks.due("the same key of another store", x.write(0, 1, 2, 5), 1);
    }

    private static void lastValueCounts() {
        Checks.about("write: and WRITES the value to the KEY");
        Run x = new Run(0);
        x.begin();
        x.write(0, 0, 0, Integer.MIN_VALUE);
        x.write(0, 0, 1, 4);
        x.write(0, 0, 1, Integer.MAX_VALUE);
        x.request(0);
        Checks.settle(x);
        Checks.due("value", x.value(0, 0), Integer.MIN_VALUE);
        Checks.due("last value", x.value(0, 1), Integer.MAX_VALUE);
        Checks.due("key not written", x.value(0, 2), 0);
    }

    private static void wrongNumbersComeFirst() {
        Checks.about("write: IllegalArgumentException, then NoSuchElementException, then as the"
            + " call says");
        Run x = new Run(1);
        x.up(Checks.STORE, 0, false);
        int[][] wrong = {{-1, 0, 0}, {8, 0, 0}, {0, -1, 0}, {0, 3, 0}, {0, 0, -1}, {0, 0, 4},
            {Integer.MIN_VALUE, 0, 0}, {Integer.MAX_VALUE, 0, 0}, {7, 3, 0}, {7, 0, 4}};
        for (int[] w : wrong) {
            Checks.dueThrow("range", Checks.ARGUMENT, () -> x.write(w[0], w[1], w[2], 0));
        }
        Checks.dueThrow("no such", Checks.NO_SUCH, () -> x.write(0, 0, 0, 0));
        Checks.dueThrow("no such", Checks.NO_SUCH, () -> x.write(7, 2, 3, 0));
        x.begin();
        Checks.dueThrow("the next one", Checks.NO_SUCH, () -> x.write(1, 1, 1, 0));
        Checks.dueThrow("store down", Checks.STATE, () -> x.write(0, 0, 0, 0));
        Checks.due("store up", x.write(0, 2, 3, 0), 1);
    }

    private static void lockAndStoreBeforeClosed() {
        Checks.about("write: the TRANSACTION is CLOSED: UnsupportedOperationException");
        Run x = Checks.requested(1, 1);
        x.begin();
        x.write(1, 1, 1, 5);
        Checks.dueThrow("closed", Checks.UNSUPPORTED, () -> x.write(0, 0, 0, 1));
        Checks.dueThrow("closed, a new store", Checks.UNSUPPORTED, () -> x.write(0, 2, 0, 1));
        Checks.dueThrow("closed and locked", Checks.STATE, () -> x.write(0, 1, 1, 1));
        x.up(Checks.STORE, 2, false);
        Checks.dueThrow("closed and down", Checks.STATE, () -> x.write(0, 2, 0, 1));
    }

    private static void statesThatTakeNoWrites() {
        Checks.about("write: or the STORE is neither NONE nor WORKING for it:"
            + " UnsupportedOperationException");
        Run x = Checks.begun(1, 2);
        x.refuse(0, 0);
        Checks.dueThrow("aborted", Checks.UNSUPPORTED, () -> x.write(0, 0, 1, 1));
        Checks.due("the other store works on", x.write(0, 1, 1, 1), 2);
        x.begin();
        x.write(1, 0, 1, 1);
        Checks.dueThrow("aborted and locked", Checks.STATE, () -> x.write(0, 0, 1, 1));
        Run y = Checks.requested(0, 1);
        y.deliver(0, false);
        Checks.dueThrow("prepared", Checks.UNSUPPORTED, () -> y.write(0, 0, 0, 1));
        Checks.settle(y);
        Checks.dueThrow("committed", Checks.UNSUPPORTED, () -> y.write(0, 0, 0, 1));
        Checks.due("its value stays", y.value(0, 0), 10);
    }

    private static void throwsChangeNothing() {
        Checks.about("A call that throws changes nothing: write");
        Run x = Checks.begun(1, 2);
        x.begin();
        x.write(1, 0, 1, 1);
        x.refuse(0, 1);
        String before = x.all();
        Checks.dueThrow("locked", Checks.STATE, () -> x.write(0, 0, 1, 1));
        Checks.dueThrow("aborted", Checks.UNSUPPORTED, () -> x.write(0, 1, 1, 1));
        Checks.dueThrow("range", Checks.ARGUMENT, () -> x.write(0, 2, 4, 1));
        Checks.dueThrow("no such", Checks.NO_SUCH, () -> x.write(2, 2, 3, 1));
        Checks.due("all is as before", x.all(), before);
        Checks.due("members are as before", x.request(0), 2);
    }
}
