/** Terms and promise 7: what each message does where it arrives. */
public final class MessagesTest {
    public static void main(String[] args) {
        prepare();
        prepareOfAnAborted();
        askAndPromise();
        askHeldUpByOneMember();
        replyTellsWhatWasTakenThen();
        replyOnlyOfTheOwnBallot();
        proposesTheGreatestBallot();
        proposesTheLowestAcceptorOfEqualBallots();
        proposesNoIfNoneHasOne();
        proposesOnce();
        doubledReplyIsOne();
        voteBelowThePromise();
        voteAboveThePromise();
        toldToBothLeaders();
        toldOfALesserBallot();
        decidedNeedsOneBallot();
        commitNeedsAllMembers();
        abortNeedsOne();
        outcomeIsSentOnce();
        outcomeOfAPrepared();
        outcomeAtAStore();
        takeOverCommits();
        Checks.end();
    }

    private static void prepare() {
        Checks.about("P PREPARE: WORKING: it is PREPARED, and a VOTE YES of BALLOT 0 for it is"
            + " SENT TO ALL ACCEPTORS");
        Run x = Checks.requested(1, 1);
        Checks.bringTwin(x, "Pt0s0");
        Checks.due("yes", Checks.net(x), "Pt0s0 Vt0s0a0b0Y Vt0s0a1b0Y Vt0s0a2b0Y");
        Checks.due("prepared", x.state(0, 0), 2);
        Checks.due("keeps its lock", x.lock(0, 0), 0);
        Checks.bringTwin(x, "Pt0s0");
        Checks.due("once", x.count(0), 4);
        while (x.count(0) > 1) {
            x.deliver(1, false);
        }
        Checks.settle(x);
        Checks.due("committed", x.state(0, 0), 3);
        Checks.due("a committed store votes no more", x.count(0), 0);
    }

    private static void prepareOfAnAborted() {
        Checks.about("P PREPARE: ABORTED (then, too): likewise NO");
        Run x = Checks.begun(1, 1);
        x.up(Checks.STORE, 0, false);
        x.up(Checks.STORE, 0, true);
        x.request(0);
        Checks.bringTwin(x, "Pt0s0");
        Checks.due("no", Checks.net(x), "Pt0s0 Vt0s0a0b0N Vt0s0a1b0N Vt0s0a2b0N");
        Checks.bring(x, "Pt0s0");
        Checks.due("no each time", x.count(0), 6);
        Checks.due("aborted", x.state(0, 0), 4);
    }

    private static void askAndPromise() {
        Checks.about("A ASK: if for none of its MEMBERS a BALLOT above b is PROMISED: b is"
            + " PROMISED for all, and a REPLY of b is sent to LEADER b % 2");
        Run x = Checks.closed(1, 1);
        x.take(1, 0);
        x.take(0, 0);
        x.take(1, 0);
        Checks.bringTwin(x, "At0a0b2");
        Checks.due("reply", x.textOf(9), "Rt0a0l0b2---");
        Checks.bring(x, "At0a0b1");
        Checks.due("none below", x.count(0), 9);
        Checks.due("promised", x.taken(0, 0, 0, true), 2);
        Checks.bring(x, "At0a0b2");
        Checks.due("again for the same", x.textOf(8), "Rt0a0l0b2---");
        Checks.bring(x, "At0a0b3");
        Checks.due("above", x.textOf(8), "Rt0a0l1b3---");
        Checks.due("promised", x.taken(0, 0, 0, true), 3);
    }

    private static void askHeldUpByOneMember() {
        Checks.about("A ASK: if for none of its MEMBERS a BALLOT above b is PROMISED (for one it"
            + " is)");
        Run x = Checks.closed(1, 2);
        x.take(1, 0);
        x.take(0, 0);
        Checks.bring(x, "At0a0b2", "At0a1b2", "Rt0a0l0b2---", "Rt0a1l0b2---", "Vt0s1a2b2N");
        Checks.due("promised for one", x.taken(2, 0, 1, true), 2);
        Checks.due("not for the other", x.taken(2, 0, 0, true), 0);
        int before = x.count(0);
        Checks.bring(x, "At0a2b1");
        Checks.due("no reply", x.count(0), before - 1);
        Checks.due("not promised", x.taken(2, 0, 0, true), 0);
        Checks.due("promised", x.taken(2, 0, 1, true), 2);
    }

    private static void replyTellsWhatWasTakenThen() {
        Checks.about("R REPLY: with what it had TAKEN for the MEMBERS when it was sent");
        Run x = Checks.requested(1, 1);
        Checks.bring(x, "Pt0s0");
        x.take(1, 0);
        Checks.bring(x, "At0a0b1", "At0a1b1", "At0a2b1");
        Checks.bring(x, "Rt0a0l1b1---", "Rt0a1l1b1---", "Vt0s0a2b1N");
        Checks.due("taken since", x.taken(2, 0, 0, false), 2);
        Checks.dueInNet("but not in the reply", x, "Rt0a2l1b1---");
    }

    private static void replyOnlyOfTheOwnBallot() {
        Checks.about("R REPLY: if b is the LEADER's BALLOT");
        Run x = Checks.closed(1, 1);
        x.take(0, 0);
        Checks.bring(x, "At0a0b2", "At0a1b2", "At0a2b2");
        x.take(0, 0);
        Checks.bring(x, "Rt0a0l0b2---", "Rt0a1l0b2---", "Rt0a2l0b2---");
        Checks.due("old replies are nothing", Checks.net(x), "At0a0b4 At0a1b4 At0a2b4");
    }

    /** Acceptor 0 has taken NO of ballot 1, acceptor 1 YES of ballot 0: the greater counts. */
    private static void proposesTheGreatestBallot() {
        Checks.about("R REPLY: that TAKEN with the greatest BALLOT in the REPLIES");
        Run x = Checks.requested(1, 1);
        Checks.bring(x, "Pt0s0", "Vt0s0a1b0Y");
        x.take(1, 0);
        Checks.bring(x, "At0a0b1", "At0a2b1", "Rt0a0l1b1---", "Rt0a2l1b1---", "Vt0s0a2b1N");
        x.take(0, 0);
        Checks.bring(x, "At0a1b2", "At0a2b2", "Rt0a1l0b20Y--", "Rt0a2l0b21N--");
        Checks.dueInNet("NO of 1 before YES of 0", x, "Vt0s0a0b2N");
        Run y = Checks.requested(1, 1);
        Checks.bring(y, "Pt0s0", "Vt0s0a1b0Y");
        y.take(1, 0);
        Checks.bring(y, "At0a0b1", "At0a1b1", "Rt0a0l1b1---", "Rt0a1l1b10Y--");
        Checks.dueInNet("YES of 0 before nothing", y, "Vt0s0a2b1Y");
    }

    /** Both votes in ballot 0 come about by a PREPARE that is doubled round an abort. */
    private static void proposesTheLowestAcceptorOfEqualBallots() {
        Checks.about("R REPLY: (of more than one, that of the ACCEPTOR with the lowest number)");
        for (int lowest = 0; lowest < 2; lowest++) {
            Run x = Checks.requested(1, 2);
            Checks.bringTwin(x, "Pt0s0");
            x.refuse(0, 1);
            Checks.bring(x, "Vt0s1a0b0N", "Vt0s1a1b0N", "Tt0s1a0l0b0N", "Tt0s1a1l0b0N");
            Checks.bring(x, "Ot0s0N", "Pt0s0");
            int yes = lowest;
            int no = 1 - lowest;
            Checks.bring(x, "Vt0s0a" + yes + "b0Y", "Vt0s0a" + no + "b0N");
            x.take(1, 0);
            Checks.bring(x, "At0a0b1", "At0a1b1");
            Checks.bring(x, "Rt0a" + no + "l1b10N0N-", "Rt0a" + yes + "l1b10Y0N-");
            String due = lowest == 0 ? "Vt0s0a2b1Y" : "Vt0s0a2b1N";
            Checks.dueInNet("acceptor 0's", x, due);
        }
    }

    private static void proposesNoIfNoneHasOne() {
        Checks.about("R REPLY: for each MEMBER, by rising numbers, a VOTE of b is SENT TO ALL"
            + " ACCEPTORS: .. NO if none has one");
        Run x = Checks.begun(1, 1);
        x.write(0, 2, 0, 5);
        x.request(0);
        Checks.bring(x, "Pt0s0", "Pt0s2", "Vt0s2a1b0Y", "Vt0s0a2b0Y");
        Checks.empty(x);
        x.take(1, 0);
        Checks.bring(x, "At0a0b1", "At0a1b1", "At0a2b1", "Rt0a0l1b1---", "Rt0a1l1b1--0Y");
        Checks.due("store 0's vote is in none of the two replies", Checks.net(x),
            "Rt0a2l1b10Y-- Vt0s0a0b1N Vt0s0a1b1N Vt0s0a2b1N Vt0s2a0b1Y Vt0s2a1b1Y Vt0s2a2b1Y");
    }

    private static void proposesOnce() {
        Checks.about("R REPLY: and it has not PROPOSED in it; .. with REPLIES of m ACCEPTORS it"
            + " has PROPOSED");
        Run x = Checks.closed(1, 1);
        x.take(0, 0);
        Checks.bring(x, "At0a0b2", "At0a1b2", "At0a2b2", "Rt0a2l0b2---");
        Checks.due("one is too few", Checks.net(x), "Rt0a0l0b2--- Rt0a1l0b2---");
        Checks.bring(x, "Rt0a0l0b2---");
        Checks.due("two are enough", Checks.net(x),
            "Rt0a1l0b2--- Vt0s0a0b2N Vt0s0a1b2N Vt0s0a2b2N");
        Checks.bring(x, "Rt0a1l0b2---");
        Checks.due("three are no more", x.count(0), 3);
        Run y = Checks.closed(0, 1);
        y.take(1, 0);
        Checks.bring(y, "At0a0b1", "Rt0a0l1b1---");
        Checks.due("one of one", Checks.net(y), "Vt0s0a0b1N");
    }

    private static void doubledReplyIsOne() {
        Checks.about("R REPLY: it has this REPLY (instead of an earlier one of that ACCEPTOR)");
        Run x = Checks.closed(1, 1);
        x.take(0, 0);
        Checks.bring(x, "At0a0b2");
        Checks.bringTwin(x, "Rt0a0l0b2---");
        Checks.bringTwin(x, "Rt0a0l0b2---");
        Checks.due("one acceptor", Checks.net(x), "At0a1b2 At0a2b2 Rt0a0l0b2---");
    }

    private static void voteBelowThePromise() {
        Checks.about("V VOTE: if no BALLOT above b is PROMISED for them: b is PROMISED, and that"
            + " is TAKEN");
        Run x = Checks.requested(1, 1);
        Checks.bring(x, "Pt0s0");
        x.take(1, 0);
        Checks.bring(x, "At0a0b1", "At0a1b1");
        Checks.bring(x, "Vt0s0a0b0Y");
        Checks.due("not taken", x.taken(0, 0, 0, false), -1);
        Checks.due("none told", Checks.net(x),
            "Vt0s0a1b0Y Vt0s0a2b0Y At0a2b1 Rt0a0l1b1--- Rt0a1l1b1---");
        Checks.bring(x, "Rt0a0l1b1---", "Rt0a1l1b1---", "Vt0s0a0b1N");
        Checks.due("as promised", x.taken(0, 0, 0, false), 2);
        Checks.bring(x, "Vt0s0a2b1N", "Vt0s0a2b0Y");
        Checks.due("above and then below", x.taken(2, 0, 0, false), 2);
    }

    private static void voteAboveThePromise() {
        Checks.about("V VOTE: b is PROMISED, and that is TAKEN (for that STORE alone, without an"
            + " ASK)");
        Run x = Checks.closed(1, 2);
        x.take(1, 0);
        Checks.bring(x, "At0a0b1", "At0a1b1", "Rt0a0l1b1---", "Rt0a1l1b1---", "Vt0s1a2b1N");
        Checks.due("promised", x.taken(2, 0, 1, true), 1);
        Checks.due("taken", x.taken(2, 0, 1, false), 2);
        Checks.due("not for the other store", x.taken(2, 0, 0, true), 0);
        Checks.due("not for the other store", x.taken(2, 0, 0, false), -1);
        x.refuse(0, 0);
        Checks.bring(x, "Vt0s0a2b0N");
        Checks.due("ballot 0 is taken there yet", x.taken(2, 0, 0, false), 0);
        Checks.bring(x, "Vt0s0a2b1N");
        Checks.due("and 1 above it", x.taken(2, 0, 0, false), 2);
    }

    private static void toldToBothLeaders() {
        Checks.about("V VOTE: a TOLD of it is sent to both LEADERS (LEADER 0 first)");
        Run x = Checks.begun(1, 1);
        x.refuse(0, 0);
        Checks.bringTwin(x, "Vt0s0a1b0N");
        Checks.due("two", Checks.net(x),
            "Vt0s0a0b0N Vt0s0a1b0N Vt0s0a2b0N Tt0s0a1l0b0N Tt0s0a1l1b0N");
        Checks.bring(x, "Vt0s0a1b0N");
        Checks.due("two again for one that is doubled", Checks.net(x),
            "Vt0s0a0b0N Vt0s0a2b0N Tt0s0a1l0b0N Tt0s0a1l1b0N Tt0s0a1l0b0N Tt0s0a1l1b0N");
    }

    /** Acceptor 0 tells ballot 0 and then 1; the leader hears them the other way round. */
    private static void toldOfALesserBallot() {
        Checks.about("T TOLD: that is the LATEST if there was none, or of a lesser BALLOT");
        Run x = Checks.requested(1, 2);
        Checks.bring(x, "Pt0s0", "Vt0s0a0b0Y");
        x.take(1, 0);
        Checks.bring(x, "At0a1b1", "At0a2b1", "Rt0a1l1b1---", "Rt0a2l1b1---");
        Checks.bring(x, "Vt0s0a0b1N", "Vt0s0a1b1N");
        Checks.bring(x, "Tt0s0a0l0b1N", "Tt0s0a0l0b0Y", "Tt0s0a1l0b1N");
        Checks.due("the lesser one is nothing", x.known(0, 0), "N");
        Checks.bring(x, "Tt0s0a0l1b0Y", "Tt0s0a0l1b1N", "Tt0s0a1l1b1N");
        Checks.due("the greater one is the latest", x.known(1, 0), "N");
        equalBallotsStay();
    }

    /** Of two votes of one acceptor in ballot 0 the leader keeps the one it heard first. */
    private static void equalBallotsStay() {
        Checks.about("T TOLD: of a lesser BALLOT (an equal one is not lesser)");
        Run x = Checks.requested(1, 2);
        Checks.bringTwin(x, "Pt0s0");
        x.refuse(0, 1);
        Checks.bring(x, "Vt0s1a0b0N", "Vt0s1a1b0N", "Tt0s1a0l0b0N", "Tt0s1a1l0b0N");
        Checks.bring(x, "Ot0s0N", "Vt0s0a0b0Y", "Pt0s0", "Vt0s0a0b0N", "Vt0s0a1b0N");
        Checks.due("the acceptor has the later", x.taken(0, 0, 0, false), 0);
        Checks.bringTwin(x, "Tt0s0a0l1b0Y");
        Checks.bringTwin(x, "Tt0s0a0l1b0N");
        Checks.bringTwin(x, "Tt0s0a1l1b0N");
        Checks.due("one YES and one NO", x.known(1, 0), "-");
        x.up(Checks.LEADER, 1, false);
        x.up(Checks.LEADER, 1, true);
        Checks.bring(x, "Tt0s0a0l1b0N", "Tt0s0a0l1b0Y", "Tt0s0a1l1b0N");
        Checks.due("NO twice", x.known(1, 0), "N");
    }

    private static void decidedNeedsOneBallot() {
        Checks.about("T TOLD: A VOTE is DECIDED for a STORE if m ACCEPTORS have it as LATEST with"
            + " the same BALLOT");
        Run x = Checks.requested(1, 1);
        Checks.bring(x, "Pt0s0", "Vt0s0a0b0Y");
        x.take(1, 0);
        Checks.bring(x, "At0a0b1", "At0a1b1", "Rt0a0l1b10Y--", "Rt0a1l1b1---", "Vt0s0a1b1Y");
        Checks.bring(x, "Tt0s0a0l0b0Y", "Tt0s0a1l0b1Y");
        Checks.due("two ballots", x.known(0, 0), "-");
        Checks.bring(x, "Vt0s0a2b1Y", "Tt0s0a2l0b1Y");
        Checks.due("two of one ballot", x.known(0, 0), "Y");
    }

    private static void commitNeedsAllMembers() {
        Checks.about("T TOLD: COMMIT if for all YES is; and an OUTCOME is sent to each MEMBER, by"
            + " rising numbers");
        Run x = Checks.requested(1, 2);
        Checks.bring(x, "Pt0s0", "Pt0s1", "Vt0s0a0b0Y", "Vt0s0a1b0Y", "Vt0s1a2b0Y", "Vt0s1a1b0Y");
        Checks.bring(x, "Tt0s0a0l0b0Y", "Tt0s0a1l0b0Y", "Tt0s1a1l0b0Y");
        Checks.due("one of two", x.known(0, 0), "-");
        int before = x.count(0);
        Checks.bring(x, "Tt0s1a2l0b0Y");
        Checks.due("two of two", x.known(0, 0), "Y");
        Checks.due("two outcomes", x.count(0), before + 1);
        Checks.due("by rising numbers", x.textOf(before - 1), "Ot0s0Y");
        Checks.due("by rising numbers", x.textOf(before), "Ot0s1Y");
    }

    private static void abortNeedsOne() {
        Checks.about("T TOLD: ABORT if for a MEMBER NO is DECIDED");
        Run x = Checks.begun(1, 3);
        x.refuse(0, 2);
        Checks.bring(x, "Vt0s2a0b0N", "Vt0s2a2b0N", "Tt0s2a0l1b0N");
        Checks.due("one acceptor", x.known(1, 0), "-");
        Checks.bring(x, "Tt0s2a2l1b0N");
        Checks.due("two acceptors", x.known(1, 0), "N");
        Checks.due("net", Checks.net(x),
            "Vt0s2a1b0N Tt0s2a0l0b0N Tt0s2a2l0b0N Ot0s0N Ot0s1N Ot0s2N");
    }

    private static void outcomeIsSentOnce() {
        Checks.about("T TOLD: The LEADER KNOWS the OUTCOME then, if it did not");
        Run x = Checks.requested(1, 1);
        Checks.bring(x, "Pt0s0", "Vt0s0a0b0Y", "Vt0s0a1b0Y", "Vt0s0a2b0Y");
        Checks.bring(x, "Tt0s0a0l0b0Y");
        Checks.bringTwin(x, "Tt0s0a1l0b0Y");
        Checks.bring(x, "Ot0s0Y", "Tt0s0a1l0b0Y", "Tt0s0a2l0b0Y");
        Checks.due("no more", Checks.net(x), "Tt0s0a0l1b0Y Tt0s0a1l1b0Y Tt0s0a2l1b0Y");
        x.take(0, 0);
        x.take(0, 0);
        Checks.due("what it knows stays", x.known(0, 0), "Y");
    }

    private static void outcomeOfAPrepared() {
        Checks.about("O OUTCOME: if it is PREPARED: COMMIT: its WRITES are VALUES; it is COMMITTED,"
            + " or ABORTED");
        Run x = Checks.requested(0, 2);
        x.up(Checks.STORE, 1, false);
        x.up(Checks.STORE, 1, true);
        Checks.bring(x, "Pt0s0", "Pt0s1", "Vt0s1a0b0N", "Tt0s1a0l0b0N");
        Checks.due("prepared", x.state(0, 0), 2);
        Checks.bring(x, "Ot0s0N");
        Checks.due("aborted", x.state(0, 0), 4);
        Checks.due("no value", x.value(0, 0), 0);
        Checks.due("no lock", x.lock(0, 0), -1);
        Run y = Checks.begun(0, 1);
        y.write(0, 0, 3, 9);
        y.request(0);
        Checks.bring(y, "Pt0s0", "Vt0s0a0b0Y", "Tt0s0a0l1b0Y", "Ot0s0Y");
        Checks.due("committed", y.state(0, 0), 3);
        Checks.due("values", y.value(0, 0) + " " + y.value(0, 3) + " " + y.value(0, 1), "10 9 0");
        Checks.due("locks", y.lock(0, 0) + " " + y.lock(0, 3), "-1 -1");
    }

    private static void outcomeAtAStore() {
        Checks.about("O OUTCOME: if it is PREPARED: .. or if it is WORKING or NONE, and ABORT:"
            + " ABORTED. Its LOCKS of this TRANSACTION are gone then");
        Run x = Checks.begun(0, 2);
        x.begin();
        x.write(1, 0, 3, 5);
        x.refuse(0, 1);
        Checks.bring(x, "Vt0s1a0b0N", "Tt0s1a0l0b0N");
        Checks.bringTwin(x, "Ot0s0N");
        Checks.due("working", x.state(0, 0), 4);
        Checks.due("its lock is gone", x.lock(0, 0), -1);
        Checks.due("another's is not", x.lock(0, 3), 1);
        x.write(1, 0, 0, 6);
        Checks.bring(x, "Ot0s0N");
        Checks.due("again: another's lock stays", x.lock(0, 0), 1);
        Run y = Checks.requested(0, 1);
        Checks.bring(y, "Pt0s0", "Vt0s0a0b0Y", "Tt0s0a0l0b0Y");
        Checks.bringTwin(y, "Ot0s0Y");
        y.begin();
        y.write(1, 0, 0, 77);
        y.request(1);
        Checks.bring(y, "Pt1s0", "Vt1s0a0b0Y", "Tt1s0a0l0b0Y", "Ot1s0Y");
        Checks.bring(y, "Ot0s0Y");
        Checks.due("a late twin is nothing", y.value(0, 0), 77);
    }

    /** Store 1's vote reaches one acceptor alone; the other leader finds it and commits. */
    private static void takeOverCommits() {
        Checks.about("leaders learn what was decided and can take over from one another");
        Run x = Checks.requested(1, 2);
        Checks.bring(x, "Pt0s0", "Pt0s1", "Vt0s0a1b0Y", "Vt0s1a1b0Y");
        Checks.empty(x);
        x.up(Checks.LEADER, 0, false);
        x.up(Checks.ACCEPTOR, 0, false);
        Checks.due("ballot", x.take(1, 0), 1);
        Checks.settle(x);
        Checks.due("leader 1", x.known(1, 0), "Y");
        Checks.due("store 0", x.value(0, 0), 10);
        Checks.due("store 1", x.value(1, 0), 11);
        Checks.due("leader 0 knows nothing", x.known(0, 0), "-");
    }
}
