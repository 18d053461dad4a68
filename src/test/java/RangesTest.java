/** Terms: IllegalArgumentException: a number out of range. Each number of each call, both sides. */
public final class RangesTest {
    private interface WithNumber {
        long answer(Run x, int number);
    }

    public static void main(String[] args) {
        write();
        request();
        refuse();
        take();
        up();
        text();
        valueAndLock();
        state();
        outcome();
        taken();
        count();
        Checks.end();
    }

    private static void write() {
        Checks.about("write: transaction 0 .. 7, store 0 .. 2, key 0 .. 3 (so for all)");
        range("transaction", 7, (x, i) -> x.write(i, 0, 1, 5));
        range("store", 2, (x, i) -> x.write(1, i, 1, 5));
        range("key", 3, (x, i) -> x.write(1, 0, i, 5));
        Run x = new Run(1);
        x.begin();
        Checks.due("a value is any int", x.write(0, 0, 0, Integer.MIN_VALUE), 1);
        Checks.due("a value is any int", x.write(0, 0, 1, Integer.MAX_VALUE), 2);
    }

    private static void request() {
        Checks.about("request: transaction 0 .. 7");
        range("transaction", 7, (x, i) -> x.request(i));
    }

    private static void refuse() {
        Checks.about("refuse: transaction 0 .. 7, store 0 .. 2");
        range("transaction", 7, (x, i) -> x.refuse(i, 0));
        range("store", 2, (x, i) -> x.refuse(1, i));
    }

    private static void take() {
        Checks.about("take: leader 0, 1; transaction 0 .. 7");
        range("leader", 1, (x, i) -> x.take(i, 0));
        range("transaction", 7, (x, i) -> x.take(0, i));
    }

    private static void up() {
        Checks.about("up: kind 0 a STORE 0 .. 2, 1 an ACCEPTOR 0 .. n - 1, 2 a LEADER 0, 1");
        for (int turn = 0; turn < 2; turn++) {
            boolean on = turn == 1;
            range("kind", 2, (x, i) -> x.up(i, 0, on) ? 1 : 0);
            range("store", 2, (x, i) -> x.up(0, i, on) ? 1 : 0);
            range("acceptor of 3", 2, (x, i) -> x.up(1, i, on) ? 1 : 0);
            range("leader", 1, (x, i) -> x.up(2, i, on) ? 1 : 0);
            rangeOf(0, "acceptor of 1", 0, (x, i) -> x.up(1, i, on) ? 1 : 0);
        }
    }

    private static void text() {
        Checks.about("text: k below 0: IllegalArgumentException");
        range("k", Integer.MAX_VALUE, (x, i) -> x.text(0, i));
    }

    private static void valueAndLock() {
        Checks.about("value: store 0 .. 2, key 0 .. 3");
        range("store", 2, (x, i) -> x.value(i, 0));
        range("key", 3, (x, i) -> x.value(0, i));
        Checks.about("lock: store 0 .. 2, key 0 .. 3");
        range("store", 2, (x, i) -> x.lock(i, 0));
        range("key", 3, (x, i) -> x.lock(0, i));
    }

    private static void state() {
        Checks.about("state: transaction 0 .. 7, store 0 .. 2");
        range("transaction", 7, (x, i) -> x.state(i, 0));
        range("store", 2, (x, i) -> x.state(0, i));
    }

    private static void outcome() {
        Checks.about("outcome: leader 0, 1; transaction 0 .. 7");
        range("leader", 1, (x, i) -> x.outcome(i, 0));
        range("transaction", 7, (x, i) -> x.outcome(0, i));
    }

    private static void taken() {
        Checks.about("taken: acceptor 0 .. n - 1, transaction 0 .. 7, store 0 .. 2");
        for (int turn = 0; turn < 2; turn++) {
            boolean promised = turn == 1;
            range("acceptor of 3", 2, (x, i) -> x.taken(i, 0, 0, promised));
            range("transaction", 7, (x, i) -> x.taken(0, i, 0, promised));
            range("store", 2, (x, i) -> x.taken(0, 0, i, promised));
            rangeOf(0, "acceptor of 1", 0, (x, i) -> x.taken(i, 0, 0, promised));
        }
    }

    private static void count() {
        Checks.about("count: what 0 .. 6");
        range("what", 6, (x, i) -> x.count(i));
    }

    private static void range(String name, int greatest, WithNumber call) {
        rangeOf(1, name, greatest, call);
    }

    /** Numbers outside are refused and change nothing, those inside are not refused for that. */
    private static void rangeOf(int f, String name, int greatest, WithNumber call) {
        int[] outside = {-1, -2, Integer.MIN_VALUE, greatest + 1, greatest + 2, Integer.MAX_VALUE};
        for (int i : outside) {
            if (i < 0 || i > greatest) {
                Run x = crowd(f);
                String before = x.all();
                Checks.dueThrow(name + " " + i, Checks.ARGUMENT, () -> call.answer(x, i));
                Checks.due(name + " " + i + " changes nothing", x.all(), before);
            }
        }
        int last = Math.min(greatest, 7);
        for (int i = 0; i <= last; i++) {
            dueNoArgument(name + " " + i, crowd(f), i, call);
        }
        dueNoArgument(name + " " + greatest, crowd(f), greatest, call);
    }

    private static void dueNoArgument(String what, Run x, int i, WithNumber call) {
        String got = "in range";
        try {
            call.answer(x, i);
        } catch (IllegalArgumentException e) {
            got = "out of range";
        } catch (RuntimeException e) {
            got = "in range";
        }
        Checks.due(what, got, "in range");
    }

    /** Eight transactions: 0 has committed, 1 writes to store 0 yet, 2 is closed. */
    private static Run crowd(int f) {
        Run x = Checks.requested(f, 1);
        Checks.settle(x);
        for (int t = 1; t < 8; t++) {
            x.begin();
        }
        x.write(1, 0, 0, 5);
        x.write(2, 1, 0, 6);
        x.request(2);
        return x;
    }
}
