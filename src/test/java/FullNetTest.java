/** Terms: the net is a row of at most 60 messages; one that is sent when it is full is lost. */
public final class FullNetTest {
    public static void main(String[] args) {
        atMostSixty();
        goesToItsEnd();
        prepareIsLost();
        someOfThoseToAllAreLost();
        votesOfARefusalAreLost();
        voteOfAPrepareIsLost();
        replyIsLost();
        proposedVotesAreLost();
        toldAreLost();
        outcomesAreLost();
        lostByTheCallerIsNotCounted();
        Checks.end();
    }

    private static void atMostSixty() {
        Checks.about("THE NET is a row of at most 60 MESSAGES");
        Run x = Checks.closed(0, 1);
        for (int i = 1; i <= 60; i++) {
            x.take(1, 0);
            Checks.due("messages", x.count(0), i);
        }
        Checks.due("none lost", x.count(1), 0);
        x.take(1, 0);
        Checks.due("the 61st does not go in", x.count(0), 60);
        Checks.due("one lost", x.count(1), 1);
        Checks.due("the first is there", x.textOf(0), "At0a0b1");
        Checks.due("the last is the 60th", x.textOf(59), "At0a0b119");
        Checks.dueThrow("there is no 61st", Checks.INDEX, () -> x.text(60, 0));
        Checks.dueThrow("there is no 61st", Checks.INDEX, () -> x.deliver(60, true));
        Checks.dueThrow("there is no 61st", Checks.INDEX, () -> x.lose(60));
    }

    private static void goesToItsEnd() {
        Checks.about("one that is sent goes to its end");
        Run x = Checks.requested(0, 3);
        x.lose(1);
        x.deliver(0, false);
        Checks.due("not into a gap", Checks.net(x), "Pt0s2 Vt0s0a0b0Y");
        x.deliver(1, true);
        Checks.due("behind the one that stays", Checks.net(x),
            "Pt0s2 Vt0s0a0b0Y Tt0s0a0l0b0Y Tt0s0a0l1b0Y");
        Checks.empty(x);
        x.take(0, 0);
        Checks.due("an empty net's end is its beginning", Checks.net(x), "At0a0b2");
    }

    private static void prepareIsLost() {
        Checks.about("if it is full it is lost: a PREPARE");
        Run x = Checks.closed(0, 1);
        x.begin();
        x.write(1, 1, 0, 5);
        x.write(1, 2, 0, 6);
        Checks.fill(x, 0, 60);
        Checks.due("its members", x.request(1), 2);
        Checks.due("both are lost", x.count(1), 2);
        Checks.due("full as before", x.count(0), 60);
        Checks.dueThrow("closed all the same", Checks.UNSUPPORTED, () -> x.request(1));
        Checks.due("working all the same", x.state(1, 1), 1);
    }

    private static void someOfThoseToAllAreLost() {
        Checks.about("if it is full it is lost: the last of those SENT TO ALL ACCEPTORS");
        for (int room = 0; room < 4; room++) {
            Run x = Checks.closed(1, 1);
            Checks.fill(x, 0, 60 - room);
            int lost = x.count(1);
            Checks.due("the ballot is taken", x.take(0, 0), 2);
            Checks.due("full", x.count(0), 60);
            Checks.due("lost", x.count(1), lost + 3 - room);
            for (int a = 0; a < room; a++) {
                Checks.due("the first have room", x.textOf(60 - room + a), "At0a" + a + "b2");
            }
            Checks.due("the next", x.take(0, 0), 4);
            Checks.due("lost", x.count(1), lost + 6 - room);
        }
    }

    private static void votesOfARefusalAreLost() {
        Checks.about("if it is full it is lost: a VOTE of refuse");
        Run x = Checks.closed(1, 2);
        Checks.fill(x, 0, 60);
        int lost = x.count(1);
        Checks.due("keys", x.refuse(0, 0), 1);
        Checks.due("three lost", x.count(1), lost + 3);
        Checks.due("aborted", x.state(0, 0), 4);
        Checks.due("lock gone", x.lock(0, 0), -1);
        x.lose(0);
        Checks.due("keys", x.refuse(0, 1), 1);
        Checks.due("two lost", x.count(1), lost + 5);
        Checks.due("the first has room", x.textOf(59), "Vt0s1a0b0N");
    }

    private static void voteOfAPrepareIsLost() {
        Checks.about("if it is full it is lost: a VOTE of a STORE that is PREPARED or ABORTED");
        Run x = Checks.requested(0, 1);
        Checks.fill(x, 0, 60);
        Checks.due("stays, so there is no room", x.deliver(0, true), 60);
        Checks.due("prepared", x.state(0, 0), 2);
        Checks.due("one lost", x.count(1), 1);
        Checks.due("again: prepared sends none", x.deliver(0, false), 59);
        Checks.due("one lost", x.count(1), 1);
        Run y = Checks.requested(0, 1);
        y.refuse(0, 0);
        Checks.fill(y, 0, 60);
        y.deliver(0, true);
        Checks.due("one lost", y.count(1), 1);
        Checks.due("taken out first, so there is room", y.deliver(0, false), 60);
        Checks.due("no more lost", y.count(1), 1);
        Checks.due("in its place at the end", y.textOf(59), "Vt0s0a0b0N");
    }

    private static void replyIsLost() {
        Checks.about("if it is full it is lost: a REPLY");
        Run x = Checks.closed(0, 2);
        x.take(0, 0);
        Checks.fill(x, 0, 60);
        Checks.due("stays", x.deliver(0, true), 60);
        Checks.due("one lost", x.count(1), 1);
        Checks.due("promised", x.taken(0, 0, 0, true), 2);
        Checks.due("promised", x.taken(0, 0, 1, true), 2);
        Checks.due("taken out first", x.deliver(0, false), 60);
        Checks.due("a reply has room then", x.textOf(59), "Rt0a0l0b2---");
    }

    private static void proposedVotesAreLost() {
        Checks.about("if it is full it is lost: a VOTE of a LEADER");
        Run x = Checks.closed(0, 3);
        x.take(0, 0);
        x.deliver(0, false);
        Checks.fill(x, 0, 60);
        Checks.due("net", x.textOf(0), "Rt0a0l0b2---");
        Checks.due("stays", x.deliver(0, true), 60);
        Checks.due("three lost", x.count(1), 3);
        x.lose(59);
        x.lose(58);
        Checks.due("it has proposed all the same", x.deliver(0, false), 57);
        x.take(0, 0);
        Checks.bring(x, "At0a0b4");
        Checks.fill(x, 0, 59);
        Checks.bring(x, "Rt0a0l0b4---");
        Checks.due("two of three have room", x.textOf(58) + " " + x.textOf(59),
            "Vt0s0a0b4N Vt0s1a0b4N");
        Checks.due("the third is lost", x.count(1), 4);
    }

    private static void toldAreLost() {
        Checks.about("if it is full it is lost: a TOLD");
        Run x = Checks.requested(0, 2);
        Checks.bring(x, "Pt0s0", "Pt0s1");
        Checks.fill(x, 0, 60);
        Checks.due("stays", x.deliver(0, true), 60);
        Checks.due("two lost", x.count(1), 2);
        Checks.due("taken all the same", x.taken(0, 0, 0, false), 1);
        Checks.due("taken out first", x.deliver(0, false), 60);
        Checks.due("one more lost", x.count(1), 3);
        Checks.due("leader 0's has room", x.textOf(59), "Tt0s0a0l0b0Y");
    }

    private static void outcomesAreLost() {
        Checks.about("if it is full it is lost: an OUTCOME");
        Run x = Checks.requested(0, 2);
        x.refuse(0, 1);
        Checks.bring(x, "Vt0s1a0b0N");
        x.lose(0);
        x.lose(0);
        Checks.fill(x, 0, 60);
        Checks.due("stays", x.deliver(0, true), 60);
        Checks.due("two lost", x.count(1), 2);
        Checks.due("known all the same", x.known(0, 0), "N");
        x.lose(59);
        x.lose(58);
        Checks.due("known, so none is sent again", x.deliver(0, true), 58);
        Checks.fill(x, 0, 60);
        Checks.due("told to the other leader", x.textOf(1), "Tt0s1a0l1b0N");
        Checks.due("taken out first", x.deliver(1, false), 60);
        Checks.due("one of two has room", x.textOf(59), "Ot0s0N");
        Checks.due("the other is lost", x.count(1), 3);
    }

    private static void lostByTheCallerIsNotCounted() {
        Checks.about("count: 1 how many were lost as it was full");
        Run x = Checks.closed(0, 1);
        Checks.due("lost by lose", x.count(1), 0);
        Checks.fill(x, 0, 60);
        x.lose(30);
        Checks.due("lost by lose", x.count(1), 0);
        x.take(0, 0);
        x.take(0, 0);
        x.take(0, 0);
        Checks.due("lost as it was full", x.count(1), 2);
        Checks.empty(x);
        Checks.due("it stays when the net is empty", x.count(1), 2);
        x.up(Checks.ACCEPTOR, 0, false);
        x.take(0, 0);
        x.deliver(0, false);
        Checks.due("not what arrives where one is not up", x.count(1), 2);
    }
}
