/** Promise 2: begin. */
public final class BeginTest {
    public static void main(String[] args) {
        answersItsNumber();
        eightAreThere();
        Checks.end();
    }

    private static void answersItsNumber() {
        Checks.about("begin: A TRANSACTION. Answers its number");
        Run x = new Run(1);
        for (int t = 0; t < 8; t++) {
            int number = t;
            Checks.dueThrow("state before begin " + t, Checks.NO_SUCH, () -> x.state(number, 0));
            Checks.due("begin", x.begin(), t);
            Checks.due("transactions", x.count(2), t + 1);
            Checks.due("state after begin", x.state(t, 2), 0);
            Checks.dueThrow("no members", Checks.STATE, () -> x.request(number));
        }
    }

    private static void eightAreThere() {
        Checks.about("begin: 8 are there: IllegalStateException");
        Run x = new Run(0);
        for (int t = 0; t < 7; t++) {
            x.begin();
        }
        Checks.due("7 are there", x.begin(), 7);
        String before = x.all();
        Checks.dueThrow("8 are there", Checks.STATE, () -> x.begin());
        Checks.dueThrow("8 are there yet", Checks.STATE, () -> x.begin());
        Checks.due("all is as before", x.all(), before);
        x.write(0, 0, 0, 1);
        x.refuse(0, 0);
        Checks.settle(x);
        Checks.dueThrow("8 are there, one of them aborted", Checks.STATE, () -> x.begin());
        Checks.due("transactions", x.count(2), 8);
    }
}
