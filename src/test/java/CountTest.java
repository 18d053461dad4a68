/** Promise 16: count. */
public final class CountTest {
    public static void main(String[] args) {
        each();
        sumsOfThoseUp();
        fullNet();
        Checks.end();
    }

    private static void each() {
        Checks.about("count: 0 MESSAGES in the NET, .. 2 TRANSACTIONS, 3 n. what 0 .. 6");
        Run x = new Run(1);
        int[] first = {0, 0, 0, 3, 7, 7, 3};
        for (int what = 0; what < 7; what++) {
            Checks.due("at first " + what, x.count(what), first[what]);
        }
        int[] ofOne = {0, 0, 0, 1, 7, 1, 3};
        Run y = new Run(0);
        for (int what = 0; what < 7; what++) {
            Checks.due("at first, one acceptor, " + what, y.count(what), ofOne[what]);
        }
        x.begin();
        x.begin();
        Checks.due("transactions", x.count(2), 2);
        x.write(0, 1, 1, 1);
        x.request(0);
        Checks.due("messages", x.count(0), 1);
        Checks.due("n", x.count(3), 3);
        Checks.dueThrow("below", Checks.ARGUMENT, () -> x.count(-1));
        Checks.dueThrow("above", Checks.ARGUMENT, () -> x.count(7));
    }

    private static void sumsOfThoseUp() {
        Checks.about("count: 4 the STORES that are UP as a sum of 2 to their numbers,"
            + " 5 the ACCEPTORS, 6 the LEADERS");
        int[] sizes = {3, 3, 2};
        for (int kind = 0; kind < 3; kind++) {
            int greatest = (1 << sizes[kind]) - 1;
            for (int sum = 0; sum <= greatest; sum++) {
                Run x = new Run(1);
                for (int which = 0; which < sizes[kind]; which++) {
                    x.up(kind, which, (sum >> which & 1) == 1);
                }
                Checks.due("sum of kind " + kind, x.count(4 + kind), sum);
                Checks.due("the next kind", x.count(4 + (kind + 1) % 3), kind == 1 ? 3 : 7);
            }
        }
        Run y = new Run(0);
        y.up(Checks.ACCEPTOR, 0, false);
        Checks.due("none of one", y.count(5), 0);
    }

    private static void fullNet() {
        Checks.about("count: 0 MESSAGES in the NET, 1 how many were lost as it was full");
        Run x = Checks.requested(1, 1);
        for (int i = 0; i < 19; i++) {
            x.take(0, 0);
        }
        Checks.due("messages", x.count(0), 58);
        Checks.due("lost", x.count(1), 0);
        x.take(0, 0);
        Checks.due("messages", x.count(0), 60);
        Checks.due("lost", x.count(1), 1);
        Checks.due("the last that went in", x.textOf(59), "At0a1b40");
        x.take(0, 0);
        Checks.due("messages", x.count(0), 60);
        Checks.due("lost", x.count(1), 4);
        x.lose(0);
        Checks.due("messages", x.count(0), 59);
        Checks.due("lost", x.count(1), 4);
    }
}
