/** The boundary cases that the terms name, but for messages (MessageEdgesTest) and a full net. */
public final class TermsEdgesTest {
    public static void main(String[] args) {
        stores();
        acceptors();
        leaders();
        transactions();
        membersAndClosed();
        statesAndWrites();
        promisedAndTaken();
        whatALeaderHas();
        sentToAllAcceptors();
        abortedHasNoLocks();
        storeNotUpAnyMore();
        leaderNotUpAnyMore();
        ballotsOfALeaderNotUpAnyMore();
        acceptorsForgetNothing();
        textOfEachKind();
        textOfAReply();
        lastCallsOfAnObject();
        Checks.end();
    }

    private static void stores() {
        Checks.about("STORES 0 .. 2 are UP (at first) or not, and have for KEYS 0 .. 3 a VALUE,"
            + " an int, 0 at first, and maybe a LOCK");
        for (int f = 0; f < 2; f++) {
            Run x = new Run(f);
            for (int s = 0; s < 3; s++) {
                for (int k = 0; k < 4; k++) {
                    Checks.due("value", x.value(s, k), 0);
                    Checks.due("lock", x.lock(s, k), -1);
                }
                Checks.due("up at first", x.up(Checks.STORE, s, true), true);
            }
        }
        Run x = new Run(0);
        x.begin();
        x.write(0, 0, 0, Integer.MIN_VALUE);
        x.write(0, 2, 3, Integer.MAX_VALUE);
        x.write(0, 2, 0, -1);
        Checks.due("a lock", x.lock(2, 3), 0);
        x.request(0);
        Checks.settle(x);
        Checks.due("the least int", x.value(0, 0), Integer.MIN_VALUE);
        Checks.due("the greatest int", x.value(2, 3), Integer.MAX_VALUE);
        Checks.due("below 0", x.value(2, 0), -1);
    }

    private static void acceptors() {
        Checks.about("ACCEPTORS 0 .. n - 1, n 1 or 3 by the constructor, are UP (at first) or not;"
            + " m is 1 of 1, 2 of 3");
        Run one = Checks.requested(0, 1);
        Checks.due("up at first", one.up(Checks.ACCEPTOR, 0, true), true);
        Checks.bring(one, "Pt0s0", "Vt0s0a0b0Y", "Tt0s0a0l0b0Y");
        Checks.due("1 of 1", one.known(0, 0), "Y");
        for (int missing = 0; missing < 3; missing++) {
            Run x = Checks.requested(1, 1);
            Checks.due("up at first", x.up(Checks.ACCEPTOR, missing, true), true);
            x.up(Checks.ACCEPTOR, missing, false);
            int first = missing == 0 ? 1 : 0;
            int second = missing == 2 ? 1 : 2;
            Checks.bring(x, "Pt0s0", "Vt0s0a" + first + "b0Y", "Vt0s0a" + second + "b0Y");
            Checks.bring(x, "Tt0s0a" + first + "l0b0Y");
            Checks.due("1 of 3", x.known(0, 0), "-");
            Checks.bring(x, "Tt0s0a" + second + "l0b0Y");
            Checks.due("2 of 3", x.known(0, 0), "Y");
        }
    }

    private static void leaders() {
        Checks.about("LEADERS 0, 1 are UP (at first) or not");
        Run x = Checks.closed(1, 1);
        Checks.due("leader 0", x.up(Checks.LEADER, 0, true), true);
        Checks.due("leader 1", x.up(Checks.LEADER, 1, false), true);
        Checks.due("leader 1 is not", x.count(6), 1);
        Checks.due("leader 0 takes over all the same", x.take(0, 0), 2);
        Checks.dueThrow("leader 1 does not", Checks.STATE, () -> x.take(1, 0));
    }

    private static void transactions() {
        Checks.about("TRANSACTIONS 0, 1, .. in the order they are begun, at most 8");
        Run x = new Run(1);
        for (int t = 0; t < 8; t++) {
            Checks.due("number", x.begin(), t);
            Checks.due("its lock", x.write(t, t % 3, t / 3, 5), 1);
            Checks.due("its lock", x.lock(t % 3, t / 3), t);
        }
        Checks.dueThrow("the ninth", Checks.STATE, () -> x.begin());
        x.request(7);
        Checks.settle(x);
        Checks.due("the eighth commits", x.outcome(1, 7), 0);
        Checks.dueThrow("one that has ended is there yet", Checks.STATE, () -> x.begin());
        Checks.due("eight", x.count(2), 8);
    }

    private static void membersAndClosed() {
        Checks.about("each has MEMBERS, STORES, none at first, and is CLOSED or not"
            + " (not at first)");
        Run x = new Run(1);
        x.begin();
        Checks.dueThrow("no members", Checks.STATE, () -> x.request(0));
        Checks.dueThrow("not closed", Checks.UNSUPPORTED, () -> x.take(0, 0));
        Checks.due("not closed", x.write(0, 0, 0, 1), 1);
        x.begin();
        Checks.dueThrow("members of its own", Checks.STATE, () -> x.request(1));
        Checks.due("one member", x.request(0), 1);
        Checks.dueThrow("another is not closed by that", Checks.UNSUPPORTED, () -> x.take(0, 1));
        Checks.due("another is not closed by that", x.write(1, 1, 0, 1), 1);
    }

    private static void statesAndWrites() {
        Checks.about("For each TRANSACTION a STORE is in a STATE: 0 NONE (at first), .. and has"
            + " WRITES, KEYS with values, none at first");
        Run x = new Run(0);
        x.begin();
        x.begin();
        x.write(0, 1, 2, 5);
        Checks.due("working", x.state(0, 1), 1);
        Checks.due("none for another transaction", x.state(1, 1), 0);
        Checks.due("none at another store", x.state(0, 2), 0);
        Checks.due("writes of its own", x.write(1, 1, 3, 6), 1);
        x.request(0);
        Checks.bring(x, "Pt0s1");
        Checks.due("prepared", x.state(0, 1), 2);
        Checks.settle(x);
        Checks.due("committed", x.state(0, 1), 3);
        Checks.due("the other works on", x.state(1, 1), 1);
        Checks.due("no write of the other", x.value(1, 3), 0);
        x.refuse(1, 1);
        Checks.due("aborted", x.state(1, 1), 4);
    }

    private static void promisedAndTaken() {
        Checks.about("an ACCEPTOR has PROMISED a BALLOT, 0 at first, and maybe TAKEN a BALLOT and"
            + " a VOTE, YES or NO");
        Run x = Checks.requested(1, 2);
        Checks.due("promised", x.taken(2, 0, 0, true), 0);
        Checks.due("nothing taken", x.taken(2, 0, 0, false), -1);
        x.refuse(0, 1);
        Checks.bring(x, "Pt0s0", "Vt0s0a2b0Y", "Vt0s1a2b0N");
        Checks.due("ballot 0 is not below it", x.taken(2, 0, 0, false), 1);
        Checks.due("NO of ballot 0 is something", x.taken(2, 0, 1, false), 0);
        Checks.due("promised still", x.taken(2, 0, 0, true), 0);
        Checks.due("another acceptor", x.taken(1, 0, 0, false), -1);
    }

    private static void whatALeaderHas() {
        Checks.about("A LEADER has for each TRANSACTION a BALLOT, its own, 0 at first, .. and"
            + " whether it KNOWS the OUTCOME, COMMIT or ABORT (not at first)");
        Run x = Checks.closed(1, 1);
        x.begin();
        x.write(1, 1, 0, 1);
        x.request(1);
        Checks.dueThrow("leader 0 knows nothing", Checks.STATE, () -> x.outcome(0, 0));
        Checks.dueThrow("leader 1 knows nothing", Checks.STATE, () -> x.outcome(1, 0));
        Checks.due("leader 1's first", x.take(1, 0), 1);
        Checks.due("leader 1's second", x.take(1, 0), 3);
        Checks.due("leader 0's first", x.take(0, 0), 2);
        Checks.due("leader 1's of another transaction", x.take(1, 1), 1);
        Checks.due("leader 0's of another transaction", x.take(0, 1), 2);
    }

    private static void sentToAllAcceptors() {
        Checks.about("To SEND TO ALL ACCEPTORS: one to each, by rising numbers");
        Run x = Checks.begun(1, 1);
        x.up(Checks.ACCEPTOR, 0, false);
        x.up(Checks.ACCEPTOR, 2, false);
        x.refuse(0, 0);
        Checks.due("those that are not up, too", Checks.net(x),
            "Vt0s0a0b0N Vt0s0a1b0N Vt0s0a2b0N");
        Run y = Checks.begun(0, 1);
        y.up(Checks.ACCEPTOR, 0, false);
        y.refuse(0, 0);
        Checks.due("the one", Checks.net(y), "Vt0s0a0b0N");
    }

    private static void abortedHasNoLocks() {
        Checks.about("A STORE that is ABORTED has no LOCKS of the TRANSACTION");
        Run x = twoTransactions();
        x.refuse(0, 0);
        dueLocksOfTheOther("by refuse", x);
        Run y = twoTransactions();
        y.write(0, 1, 0, 1);
        y.refuse(0, 1);
        Checks.bring(y, "Vt0s1a0b0N", "Tt0s1a0l1b0N", "Ot0s0N");
        dueLocksOfTheOther("by an outcome, working", y);
        Run z = twoTransactions();
        z.write(0, 1, 0, 1);
        z.request(0);
        Checks.bring(z, "Pt0s0");
        Checks.due("prepared has its locks", z.lock(0, 0), 0);
        z.refuse(0, 1);
        Checks.bring(z, "Vt0s1a0b0N", "Tt0s1a0l1b0N", "Ot0s0N");
        dueLocksOfTheOther("by an outcome, prepared", z);
    }

    /** At store 0 transaction 0 has locks 0 and 3, transaction 1 has lock 1. */
    private static Run twoTransactions() {
        Run x = Checks.begun(0, 1);
        x.write(0, 0, 3, 5);
        x.begin();
        x.write(1, 0, 1, 6);
        return x;
    }

    private static void dueLocksOfTheOther(String how, Run x) {
        Checks.due(how + ": aborted", x.state(0, 0), 4);
        Checks.due(how + ": lock 0", x.lock(0, 0), -1);
        Checks.due(how + ": lock 3", x.lock(0, 3), -1);
        Checks.due(how + ": the other's lock", x.lock(0, 1), 1);
        Checks.due(how + ": the other works on", x.state(1, 0), 1);
    }

    private static void storeNotUpAnyMore() {
        Checks.about("A STORE that is not UP any more is ABORTED for all TRANSACTIONS for which it"
            + " is WORKING");
        Run x = new Run(0);
        for (int t = 0; t < 6; t++) {
            x.begin();
        }
        for (int t = 0; t < 4; t++) {
            x.write(t, 0, t, 70 + t);
        }
        x.request(0);
        Checks.settle(x);
        x.request(1);
        x.deliver(0, false);
        x.write(4, 0, 0, 74);
        x.refuse(4, 0);
        Checks.empty(x);
        x.up(Checks.STORE, 0, false);
        int[] states = {3, 2, 4, 4, 4, 0};
        int[] locks = {-1, 1, -1, -1};
        for (int t = 0; t < 6; t++) {
            Checks.due("state of " + t, x.state(t, 0), states[t]);
        }
        for (int k = 0; k < 4; k++) {
            Checks.due("lock of key " + k, x.lock(0, k), locks[k]);
        }
        Checks.due("no vote is sent", x.count(0), 0);
        Checks.due("its values stay", x.value(0, 0), 70);
        x.up(Checks.STORE, 0, true);
        for (int t = 0; t < 6; t++) {
            Checks.due("state of " + t + " when up again", x.state(t, 0), states[t]);
        }
    }

    private static void leaderNotUpAnyMore() {
        Checks.about("A LEADER that is not UP any more forgets all it has of TRANSACTIONS");
        Run x = Checks.requested(1, 1);
        x.begin();
        x.write(1, 1, 0, 1);
        x.refuse(1, 1);
        Checks.bring(x, "Vt1s1a0b0N", "Vt1s1a1b0N", "Tt1s1a0l1b0N", "Tt1s1a1l1b0N");
        Checks.bring(x, "Tt1s1a0l0b0N", "Tt1s1a1l0b0N");
        Checks.bring(x, "Pt0s0", "Vt0s0a0b0Y", "Vt0s0a1b0Y", "Vt0s0a2b0Y", "Tt0s0a0l1b0Y");
        Checks.due("knows", x.known(1, 1), "N");
        x.up(Checks.LEADER, 1, false);
        Checks.due("what it knew", x.known(1, 1), "-");
        Checks.due("the other forgets nothing", x.known(0, 1), "N");
        x.up(Checks.LEADER, 1, true);
        Checks.due("no less when up again", x.known(1, 1), "-");
        Checks.bring(x, "Tt0s0a1l1b0Y");
        Checks.due("what it was told", x.known(1, 0), "-");
        Checks.bring(x, "Tt0s0a2l1b0Y");
        Checks.due("it is told anew", x.known(1, 0), "Y");
        x.up(Checks.LEADER, 1, true);
        Checks.due("it forgets nothing when it was up", x.known(1, 0), "Y");
    }

    private static void ballotsOfALeaderNotUpAnyMore() {
        Checks.about("but its BALLOTS, in which it counts as having PROPOSED");
        Run x = Checks.closed(1, 1);
        x.take(0, 0);
        Checks.bring(x, "At0a0b2", "At0a1b2", "At0a2b2");
        x.up(Checks.LEADER, 0, false);
        x.up(Checks.LEADER, 0, true);
        Checks.bring(x, "Rt0a0l0b2---", "Rt0a1l0b2---", "Rt0a2l0b2---");
        Checks.due("no votes in it", x.count(0), 0);
        Checks.due("the next ballot", x.take(0, 0), 4);
        Checks.bring(x, "At0a0b4", "Rt0a0l0b4---", "At0a2b4", "Rt0a2l0b4---");
        Checks.due("votes in the next", Checks.net(x),
            "At0a1b4 Vt0s0a0b4N Vt0s0a1b4N Vt0s0a2b4N");
    }

    private static void acceptorsForgetNothing() {
        Checks.about("ACCEPTORS forget nothing");
        Run x = Checks.requested(0, 1);
        Checks.bring(x, "Pt0s0", "Vt0s0a0b0Y");
        x.take(1, 0);
        x.take(0, 0);
        Checks.bring(x, "At0a0b2");
        x.up(Checks.ACCEPTOR, 0, false);
        Checks.due("taken", x.taken(0, 0, 0, false), 1);
        Checks.due("promised", x.taken(0, 0, 0, true), 2);
        x.up(Checks.ACCEPTOR, 0, true);
        Checks.due("taken", x.taken(0, 0, 0, false), 1);
        int before = x.count(0);
        Checks.bring(x, "At0a0b1");
        Checks.due("no reply below what was promised", x.count(0), before - 1);
        x.take(0, 0);
        Checks.bring(x, "At0a0b4");
        Checks.due("tells what was taken", x.textOf(x.count(0) - 1), "Rt0a0l0b40Y--");
    }

    private static void textOfEachKind() {
        Checks.about("THE TEXT of a MESSAGE: its letter, and, as far as it has them, in this order,"
            + " with no blanks");
        Run x = new Run(1);
        for (int t = 0; t < 8; t++) {
            x.begin();
        }
        x.write(7, 2, 0, 1);
        x.request(7);
        Checks.due("no ballot, no vote", x.textOf(0), "Pt7s2");
        Checks.bring(x, "Pt7s2");
        Checks.due("no leader", x.textOf(2), "Vt7s2a2b0Y");
        Checks.bring(x, "Vt7s2a2b0Y");
        Checks.due("all", x.textOf(3), "Tt7s2a2l1b0Y");
        Checks.bring(x, "Vt7s2a1b0Y", "Tt7s2a2l0b0Y", "Tt7s2a1l0b0Y");
        Checks.due("a vote, no ballot", x.textOf(x.count(0) - 1), "Ot7s2Y");
        x.take(0, 7);
        Checks.due("the leader that asks is not named", x.textOf(x.count(0) - 1), "At7a2b2");
        x.write(0, 0, 0, 1);
        x.refuse(0, 0);
        Checks.due("NO", x.textOf(x.count(0) - 3), "Vt0s0a0b0N");
    }

    private static void textOfAReply() {
        Checks.about("a REPLY ends with, for each STORE in order, - if nothing is TAKEN, else its"
            + " BALLOT and Y or N");
        Run x = Checks.begun(0, 1);
        x.write(0, 2, 0, 1);
        x.request(0);
        x.take(1, 0);
        Checks.bringTwin(x, "At0a0b1");
        Checks.due("nothing, and a store that is no member", x.textOf(3), "Rt0a0l1b1---");
        Run y = Checks.begun(0, 1);
        y.write(0, 2, 0, 1);
        y.request(0);
        y.refuse(0, 2);
        Checks.bring(y, "Pt0s0", "Vt0s0a0b0Y", "Vt0s2a0b0N");
        Checks.empty(y);
        y.take(0, 0);
        Checks.bring(y, "At0a0b2");
        Checks.due("ballot 0", Checks.net(y), "Rt0a0l0b20Y-0N");
        for (int i = 0; i < 4; i++) {
            y.take(0, 0);
        }
        Checks.empty(y);
        y.take(0, 0);
        Checks.bring(y, "At0a0b12", "Rt0a0l0b120Y-0N", "Vt0s0a0b12Y", "Vt0s2a0b12N");
        Checks.empty(y);
        y.take(1, 0);
        Checks.bring(y, "At0a0b1");
        Checks.due("none below what was promised", y.count(0), 0);
        y.take(0, 0);
        Checks.bring(y, "At0a0b14");
        Checks.due("two digits", Checks.net(y), "Rt0a0l0b1412Y-12N");
    }

    private static void lastCallsOfAnObject() {
        Checks.about("An object is used for at most 512 calls after it has been made");
        Run x = Checks.begun(0, 1);
        x.request(0);
        x.lose(0);
        for (int b = 1; b <= 1005; b += 2) {
            Checks.due("ballot", x.take(1, 0), b);
        }
        Checks.due("lost", x.count(1), 443);
        Checks.due("the 509th", x.text(59, 8), '9');
        Checks.due("the 510th", x.text(59, 9), -1);
        Checks.due("the 511th", x.deliver(59, false), 60);
        Checks.due("the 512th", x.taken(0, 0, 0, true), 119);
    }
}
