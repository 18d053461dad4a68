/** Promise 6: take. */
public final class TakeTest {
    public static void main(String[] args) {
        ballotsRise();
        asksAllAcceptors();
        eachTransactionHasItsBallot();
        startsWithoutReplies();
        startsNotProposed();
        afterAllIsKnown();
        ballotsOutliveACrash();
        wrongInputs();
        Checks.end();
    }

    private static void ballotsRise() {
        Checks.about("take: Its BALLOT becomes the least one b above it with b % 2 = leader (so"
            + " 2, 4, .. or 1, 3, ..). Answers it");
        Run x = Checks.closed(1, 1);
        for (int i = 1; i <= 12; i++) {
            Checks.due("leader 0", x.take(0, 0), 2 * i);
            Checks.due("leader 1", x.take(1, 0), 2 * i - 1);
            Checks.empty(x);
        }
        Checks.due("leader 1 again", x.take(1, 0), 25);
        Run y = Checks.closed(0, 1);
        for (int i = 0; i < 5; i++) {
            y.take(1, 0);
        }
        Checks.due("not above the other leader's", y.take(0, 0), 2);
    }

    private static void asksAllAcceptors() {
        Checks.about("take: an ASK of it is SENT TO ALL ACCEPTORS");
        Run x = Checks.closed(1, 1);
        x.up(Checks.ACCEPTOR, 1, false);
        x.take(0, 0);
        Checks.due("net", Checks.net(x), "At0a0b2 At0a1b2 At0a2b2");
        Run y = Checks.closed(0, 1);
        y.take(1, 0);
        Checks.due("net", Checks.net(y), "At0a0b1");
    }

    private static void eachTransactionHasItsBallot() {
        Checks.about("take: Its BALLOT (of this TRANSACTION)");
        Run x = Checks.closed(1, 1);
        x.begin();
        x.write(1, 1, 0, 1);
        x.request(1);
        x.take(0, 0);
        x.take(0, 0);
        Checks.due("its own", x.take(0, 1), 2);
        Checks.due("its own", x.take(0, 0), 6);
    }

    private static void startsWithoutReplies() {
        Checks.about("take: without REPLIES");
        Run x = Checks.closed(1, 1);
        x.take(0, 0);
        Checks.bring(x, "At0a0b2", "Rt0a0l0b2---");
        x.take(0, 0);
        Checks.bring(x, "At0a1b4", "Rt0a1l0b4---");
        Checks.due("the reply to 2 counts no more", Checks.net(x),
            "At0a1b2 At0a2b2 At0a0b4 At0a2b4");
        Checks.bring(x, "At0a0b4", "Rt0a0l0b4---");
        Checks.due("proposed in 4", Checks.net(x),
            "At0a1b2 At0a2b2 At0a2b4 Vt0s0a0b4N Vt0s0a1b4N Vt0s0a2b4N");
    }

    private static void startsNotProposed() {
        Checks.about("take: not PROPOSED");
        Run x = Checks.closed(0, 1);
        x.take(1, 0);
        Checks.bring(x, "At0a0b1", "Rt0a0l1b1---");
        Checks.due("proposed in 1", Checks.net(x), "Vt0s0a0b1N");
        x.take(1, 0);
        Checks.bring(x, "At0a0b3", "Rt0a0l1b3---");
        Checks.due("proposed in 3, too", Checks.net(x), "Vt0s0a0b1N Vt0s0a0b3N");
    }

    private static void afterAllIsKnown() {
        Checks.about("take: a TRANSACTION that is CLOSED (one that has ended, too)");
        Run x = Checks.requested(0, 1);
        Checks.settle(x);
        Checks.due("takes", x.take(0, 0), 2);
        Checks.settle(x);
        Checks.due("votes as before", x.taken(0, 0, 0, false), 5);
        Checks.due("knows as before", x.known(0, 0), "Y");
        Checks.due("committed as before", x.state(0, 0), 3);
    }

    private static void ballotsOutliveACrash() {
        Checks.about("take: Its BALLOT becomes the least one above it (above one from before it"
            + " was not UP, too)");
        Run x = Checks.closed(1, 1);
        x.take(1, 0);
        x.up(Checks.LEADER, 1, false);
        x.up(Checks.LEADER, 1, true);
        Checks.due("above the one before", x.take(1, 0), 3);
    }

    private static void wrongInputs() {
        Checks.about("take: It is not UP: IllegalStateException; the TRANSACTION is not CLOSED:"
            + " UnsupportedOperationException");
        Run x = new Run(1);
        x.up(Checks.LEADER, 0, false);
        int[][] wrong = {{-1, 0}, {2, 0}, {0, -1}, {0, 8}, {2, 7}};
        for (int[] w : wrong) {
            Checks.dueThrow("range", Checks.ARGUMENT, () -> x.take(w[0], w[1]));
        }
        Checks.dueThrow("no such", Checks.NO_SUCH, () -> x.take(0, 0));
        x.begin();
        x.write(0, 0, 0, 1);
        Checks.dueThrow("down before not closed", Checks.STATE, () -> x.take(0, 0));
        Checks.dueThrow("not closed", Checks.UNSUPPORTED, () -> x.take(1, 0));
        x.request(0);
        Checks.dueThrow("down", Checks.STATE, () -> x.take(0, 0));
        Checks.due("no ballot was used up", x.take(1, 0), 1);
        x.up(Checks.LEADER, 0, true);
        Checks.due("no ballot was used up", x.take(0, 0), 2);
    }
}
