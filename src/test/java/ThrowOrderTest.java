/** Terms: what is thrown, in this order; each two reasons that can meet in one call. */
public final class ThrowOrderTest {
    private static final int MISSING = 5;

    public static void main(String[] args) {
        write();
        writeNotUpOrLocked();
        request();
        refuse();
        take();
        text();
        state();
        outcome();
        taken();
        up();
        Checks.end();
    }

    /**
     * Transaction 0 is closed with store 0; 1 has lock 1 of store 1, is aborted at store 0 and
     * still open; 2 has no members; 3 and 4 are aborted at stores 0 and 2; store 2 is not up.
     */
    private static Run crowd() {
        Run x = Checks.closed(1, 1);
        x.begin();
        x.write(1, 1, 1, 5);
        x.write(1, 0, 1, 5);
        x.refuse(1, 0);
        x.begin();
        x.begin();
        x.write(3, 0, 2, 5);
        x.refuse(3, 0);
        x.begin();
        x.write(4, 2, 2, 5);
        x.up(Checks.STORE, 2, false);
        x.up(Checks.LEADER, 1, false);
        return x;
    }

    private static void write() {
        Checks.about("What is thrown, in this order: write");
        Run x = crowd();
        Checks.dueThrow("range, none there", Checks.ARGUMENT, () -> x.write(MISSING, 3, 0, 1));
        Checks.dueThrow("range, none there", Checks.ARGUMENT, () -> x.write(MISSING, 0, 4, 1));
        Checks.dueThrow("range, none there", Checks.ARGUMENT, () -> x.write(MISSING, -1, 0, 1));
        Checks.dueThrow("range, none there", Checks.ARGUMENT, () -> x.write(MISSING, 0, -1, 1));
        Checks.dueThrow("range, not up", Checks.ARGUMENT, () -> x.write(1, 2, 4, 1));
        Checks.dueThrow("range, not up", Checks.ARGUMENT, () -> x.write(8, 2, 0, 1));
        Checks.dueThrow("range, locked", Checks.ARGUMENT, () -> x.write(-1, 0, 0, 1));
        Checks.dueThrow("range, closed", Checks.ARGUMENT, () -> x.write(0, 0, 4, 1));
        Checks.dueThrow("range, aborted", Checks.ARGUMENT, () -> x.write(1, 0, 4, 1));
        Checks.dueThrow("none there, not up", Checks.NO_SUCH, () -> x.write(MISSING, 2, 0, 1));
        Checks.dueThrow("none there, locked", Checks.NO_SUCH, () -> x.write(MISSING, 0, 0, 1));
        Checks.dueThrow("none there", Checks.NO_SUCH, () -> x.write(MISSING, 1, 0, 1));
    }

    private static void writeNotUpOrLocked() {
        Checks.about("write: The STORE is not UP, or another TRANSACTION has the LOCK:"
            + " IllegalStateException; the TRANSACTION is CLOSED, or the STORE is neither NONE nor"
            + " WORKING for it: UnsupportedOperationException (in this order)");
        Run x = crowd();
        Checks.dueThrow("not up, closed", Checks.STATE, () -> x.write(0, 2, 0, 1));
        Checks.dueThrow("not up, aborted", Checks.STATE, () -> x.write(4, 2, 0, 1));
        Checks.dueThrow("not up alone", Checks.STATE, () -> x.write(2, 2, 0, 1));
        Checks.dueThrow("locked, closed", Checks.STATE, () -> x.write(0, 1, 1, 1));
        Checks.dueThrow("locked, aborted", Checks.STATE, () -> x.write(3, 0, 0, 1));
        Checks.dueThrow("locked alone", Checks.STATE, () -> x.write(2, 0, 0, 1));
        Checks.dueThrow("closed, store none", Checks.UNSUPPORTED, () -> x.write(0, 1, 0, 1));
        Checks.dueThrow("closed, store working", Checks.UNSUPPORTED, () -> x.write(0, 0, 0, 1));
        Checks.dueThrow("aborted", Checks.UNSUPPORTED, () -> x.write(3, 0, 1, 1));
        Checks.due("nothing in the way", x.write(1, 1, 0, 1), 2);
    }

    private static void request() {
        Checks.about("What is thrown, in this order: request");
        Run x = crowd();
        Checks.dueThrow("range", Checks.ARGUMENT, () -> x.request(8));
        Checks.dueThrow("none there, so no members", Checks.NO_SUCH, () -> x.request(MISSING));
        Checks.dueThrow("no members", Checks.STATE, () -> x.request(2));
        Checks.dueThrow("closed", Checks.UNSUPPORTED, () -> x.request(0));
    }

    private static void refuse() {
        Checks.about("What is thrown, in this order: refuse");
        Run x = crowd();
        Checks.dueThrow("range, none there", Checks.ARGUMENT, () -> x.refuse(MISSING, 3));
        Checks.dueThrow("range, none there", Checks.ARGUMENT, () -> x.refuse(MISSING, -1));
        Checks.dueThrow("range, not up", Checks.ARGUMENT, () -> x.refuse(8, 2));
        Checks.dueThrow("none there, not up", Checks.NO_SUCH, () -> x.refuse(MISSING, 2));
        Checks.dueThrow("none there", Checks.NO_SUCH, () -> x.refuse(MISSING, 0));
        Checks.dueThrow("not up, aborted", Checks.STATE, () -> x.refuse(4, 2));
        Checks.dueThrow("not up, none", Checks.STATE, () -> x.refuse(2, 2));
        Checks.dueThrow("none", Checks.UNSUPPORTED, () -> x.refuse(2, 1));
        Checks.dueThrow("aborted", Checks.UNSUPPORTED, () -> x.refuse(1, 0));
    }

    private static void take() {
        Checks.about("What is thrown, in this order: take");
        Run x = crowd();
        Checks.dueThrow("range, none there", Checks.ARGUMENT, () -> x.take(2, MISSING));
        Checks.dueThrow("range, none there", Checks.ARGUMENT, () -> x.take(-1, MISSING));
        Checks.dueThrow("range, not up", Checks.ARGUMENT, () -> x.take(1, 8));
        Checks.dueThrow("range, not closed", Checks.ARGUMENT, () -> x.take(2, 1));
        Checks.dueThrow("none there, not up", Checks.NO_SUCH, () -> x.take(1, MISSING));
        Checks.dueThrow("none there", Checks.NO_SUCH, () -> x.take(0, MISSING));
        Checks.dueThrow("not up, not closed", Checks.STATE, () -> x.take(1, 1));
        Checks.dueThrow("not up", Checks.STATE, () -> x.take(1, 0));
        Checks.dueThrow("not closed", Checks.UNSUPPORTED, () -> x.take(0, 1));
        Checks.due("nothing in the way", x.take(0, 0), 2);
    }

    private static void text() {
        Checks.about("What is thrown, in this order: text");
        Run x = Checks.requested(1, 1);
        Checks.dueThrow("k below 0, no message", Checks.ARGUMENT, () -> x.text(1, -1));
        Checks.dueThrow("k below 0, no message", Checks.ARGUMENT, () -> x.text(-1, -1));
        Checks.dueThrow("k below 0", Checks.ARGUMENT, () -> x.text(0, -1));
        Checks.dueThrow("no message", Checks.INDEX, () -> x.text(1, 0));
        Checks.dueThrow("no message, k behind the end", Checks.INDEX, () -> x.text(1, 99));
    }

    private static void state() {
        Checks.about("What is thrown, in this order: state");
        Run x = crowd();
        Checks.dueThrow("range, none there", Checks.ARGUMENT, () -> x.state(MISSING, 3));
        Checks.dueThrow("range, none there", Checks.ARGUMENT, () -> x.state(MISSING, -1));
        Checks.dueThrow("none there", Checks.NO_SUCH, () -> x.state(MISSING, 2));
        Checks.due("the last that is there", x.state(MISSING - 1, 2), 4);
    }

    private static void outcome() {
        Checks.about("What is thrown, in this order: outcome");
        Run x = crowd();
        Checks.dueThrow("range, none there", Checks.ARGUMENT, () -> x.outcome(2, MISSING));
        Checks.dueThrow("range, none there", Checks.ARGUMENT, () -> x.outcome(-1, MISSING));
        Checks.dueThrow("range, nothing known", Checks.ARGUMENT, () -> x.outcome(2, 0));
        Checks.dueThrow("none there, nothing known", Checks.NO_SUCH, () -> x.outcome(0, MISSING));
        Checks.dueThrow("nothing known", Checks.STATE, () -> x.outcome(0, MISSING - 1));
    }

    private static void taken() {
        Checks.about("What is thrown, in this order: taken");
        Run x = crowd();
        for (int turn = 0; turn < 2; turn++) {
            boolean promised = turn == 1;
            Checks.dueThrow("acceptor", Checks.ARGUMENT, () -> x.taken(3, MISSING, 0, promised));
            Checks.dueThrow("acceptor", Checks.ARGUMENT, () -> x.taken(-1, MISSING, 0, promised));
            Checks.dueThrow("store", Checks.ARGUMENT, () -> x.taken(0, MISSING, 3, promised));
            Checks.dueThrow("store", Checks.ARGUMENT, () -> x.taken(0, MISSING, -1, promised));
            Checks.dueThrow("none", Checks.NO_SUCH, () -> x.taken(2, MISSING, 2, promised));
        }
        Checks.due("the last that is there", x.taken(2, MISSING - 1, 2, true), 0);
    }

    /** One reason alone, but the second number's range hangs on the first. */
    private static void up() {
        Checks.about("What is thrown: up");
        Run x = new Run(0);
        Checks.dueThrow("kind", Checks.ARGUMENT, () -> x.up(3, 0, true) ? 1 : 0);
        Checks.dueThrow("kind and which", Checks.ARGUMENT, () -> x.up(-1, -1, true) ? 1 : 0);
        Checks.dueThrow("acceptor", Checks.ARGUMENT, () -> x.up(1, 1, true) ? 1 : 0);
        Checks.due("store", x.up(0, 2, true), true);
        Checks.dueThrow("leader", Checks.ARGUMENT, () -> x.up(2, 2, true) ? 1 : 0);
    }
}
