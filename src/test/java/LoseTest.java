/** Promise 8: lose. */
public final class LoseTest {
    public static void main(String[] args) {
        PaxosCommit x = Checks.requested(1, 3);
        Checks.due("middle", x.lose(1), 2);
        Checks.due("net", Checks.net(x), "Pt0s0 Pt0s2");
        Checks.due("nothing arrives", x.state(0, 1), 1);
        Checks.dueThrow("below", Checks.INDEX, () -> x.lose(-1));
        Checks.dueThrow("behind", Checks.INDEX, () -> x.lose(2));
        Checks.due("net", Checks.net(x), "Pt0s0 Pt0s2");
        Checks.due("last", x.lose(1), 1);
        Checks.due("only", x.lose(0), 0);
        Checks.dueThrow("empty", Checks.INDEX, () -> x.lose(0));
        Checks.due("not as it was full", x.count(1), 0);
        aFullNetHasRoomAgain();
        Checks.end();
    }

    private static void aFullNetHasRoomAgain() {
        PaxosCommit x = Checks.closed(0, 1);
        for (int i = 0; i < 61; i++) {
            x.take(1, 0);
        }
        Checks.due("one too many", x.count(1), 1);
        Checks.due("lose", x.lose(59), 59);
        Checks.due("the one before is last", Checks.textOf(x, 58), "At0a0b117");
        Checks.due("the lost ballot was used", x.take(1, 0), 123);
        Checks.due("it is in", Checks.textOf(x, 59), "At0a0b123");
        Checks.due("none lost by that", x.count(1), 1);
    }
}
