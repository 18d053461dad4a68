/** Promise 8: lose. */
public final class LoseTest {
    public static void main(String[] args) {
        takesOut();
        noneThere();
        aFullNetHasRoomAgain();
        Checks.end();
    }

    private static void takesOut() {
        Checks.about("lose: It is taken out of the NET; likewise");
        Run x = Checks.requested(1, 3);
        Checks.due("middle", x.lose(1), 2);
        Checks.due("net", Checks.net(x), "Pt0s0 Pt0s2");
        Checks.due("nothing arrives", x.state(0, 1), 1);
        Checks.due("last", x.lose(1), 1);
        Checks.due("net", Checks.net(x), "Pt0s0");
        Checks.due("only", x.lose(0), 0);
        Checks.due("not as it was full", x.count(1), 0);
        for (int store = 0; store < 3; store++) {
            Checks.due("nothing arrives", x.state(0, store), 1);
        }
    }

    private static void noneThere() {
        Checks.about("lose: there is none: IndexOutOfBoundsException");
        Run x = Checks.requested(1, 2);
        String before = x.all();
        int[] none = {-1, 2, 3, 59, 60, Integer.MIN_VALUE, Integer.MAX_VALUE};
        for (int i : none) {
            Checks.dueThrow("none at " + i, Checks.INDEX, () -> x.lose(i));
        }
        Checks.due("all is as before", x.all(), before);
        Checks.empty(x);
        Checks.dueThrow("an empty net", Checks.INDEX, () -> x.lose(0));
    }

    private static void aFullNetHasRoomAgain() {
        Checks.about("lose: It is taken out of the NET (of a full one)");
        Run x = Checks.closed(0, 1);
        for (int i = 0; i < 61; i++) {
            x.take(1, 0);
        }
        Checks.due("one too many", x.count(1), 1);
        Checks.due("lose", x.lose(59), 59);
        Checks.due("the one before is last", x.textOf(58), "At0a0b117");
        Checks.due("the lost ballot was used", x.take(1, 0), 123);
        Checks.due("it is in", x.textOf(59), "At0a0b123");
        Checks.due("none lost by that", x.count(1), 1);
    }
}
