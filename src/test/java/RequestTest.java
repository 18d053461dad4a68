/** Promise 4: request. */
public final class RequestTest {
    public static void main(String[] args) {
        sendsByRisingNumbers();
        closesOnce();
        refusedStoresStayMembers();
        goesOnWithAFullNet();
        wrongInputs();
        Checks.end();
    }

    private static void sendsByRisingNumbers() {
        Checks.about("request: a PREPARE is sent to each MEMBER, by rising numbers. Answers how"
            + " many");
        Run x = new Run(1);
        x.begin();
        x.write(0, 2, 0, 1);
        x.write(0, 0, 0, 1);
        Checks.due("two members", x.request(0), 2);
        Checks.due("net", Checks.net(x), "Pt0s0 Pt0s2");
        Run y = Checks.begun(0, 3);
        Checks.due("three members", y.request(0), 3);
        Checks.due("net", Checks.net(y), "Pt0s0 Pt0s1 Pt0s2");
    }

    private static void closesOnce() {
        Checks.about("request: it is CLOSED: UnsupportedOperationException");
        Run x = Checks.requested(1, 1);
        Checks.dueThrow("again", Checks.UNSUPPORTED, () -> x.request(0));
        Checks.due("one message", Checks.net(x), "Pt0s0");
        Checks.settle(x);
        Checks.dueThrow("again when it has ended", Checks.UNSUPPORTED, () -> x.request(0));
        Checks.due("no message", x.count(0), 0);
        Checks.dueThrow("no writes", Checks.UNSUPPORTED, () -> x.write(0, 1, 0, 0));
    }

    private static void refusedStoresStayMembers() {
        Checks.about("request: to each MEMBER (one that is ABORTED or not UP, too)");
        Run x = Checks.begun(1, 2);
        x.refuse(0, 0);
        x.up(Checks.STORE, 1, false);
        Checks.empty(x);
        Checks.due("members", x.request(0), 2);
        Checks.due("net", Checks.net(x), "Pt0s0 Pt0s1");
    }

    private static void goesOnWithAFullNet() {
        Checks.about("request: Answers how many (with a full NET, too)");
        Run x = Checks.requested(1, 1);
        x.begin();
        x.write(1, 1, 0, 1);
        x.write(1, 2, 0, 1);
        for (int i = 0; i < 19; i++) {
            x.take(0, 0);
        }
        x.lose(0);
        x.lose(0);
        Checks.due("room for four", x.count(0), 56);
        x.take(0, 0);
        Checks.due("room for one", x.count(0), 59);
        Checks.due("answers its members", x.request(1), 2);
        Checks.due("the first is sent", x.textOf(59), "Pt1s1");
        Checks.due("the second is lost", x.count(1), 1);
        Checks.dueThrow("closed all the same", Checks.UNSUPPORTED, () -> x.request(1));
    }

    private static void wrongInputs() {
        Checks.about("request: It has no MEMBERS: IllegalStateException");
        Run x = new Run(1);
        Checks.dueThrow("below", Checks.ARGUMENT, () -> x.request(-1));
        Checks.dueThrow("above", Checks.ARGUMENT, () -> x.request(8));
        Checks.dueThrow("none yet", Checks.NO_SUCH, () -> x.request(0));
        Checks.dueThrow("none yet", Checks.NO_SUCH, () -> x.request(7));
        x.begin();
        Checks.dueThrow("no members", Checks.STATE, () -> x.request(0));
        x.up(Checks.STORE, 1, false);
        Checks.dueThrow("store down", Checks.STATE, () -> x.write(0, 1, 1, 1));
        Checks.dueThrow("no member by that", Checks.STATE, () -> x.request(0));
        x.up(Checks.STORE, 1, true);
        x.write(0, 1, 1, 1);
        Checks.due("not closed by that", x.request(0), 1);
    }
}
