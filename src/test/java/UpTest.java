/** Promise 9: up. */
public final class UpTest {
    public static void main(String[] args) {
        answersWhatWas();
        downTwiceAndUpTwice();
        storesLoseTheirWork();
        preparedStoresKeepTheirs();
        acceptorsForgetNothing();
        leadersForget();
        wrongInputs();
        Checks.end();
    }

    private static void answersWhatWas() {
        Checks.about("up: it is UP or not from now on. Answers whether it was");
        Run x = new Run(1);
        int[] sizes = {3, 3, 2};
        for (int kind = 0; kind < 3; kind++) {
            for (int which = 0; which < sizes[kind]; which++) {
                Checks.due("was up", x.up(kind, which, true), true);
                Checks.due("was up", x.up(kind, which, false), true);
                Checks.due("was down", x.up(kind, which, false), false);
                Checks.due("sum", x.count(4 + kind), (1 << sizes[kind]) - 1 - (1 << which));
                Checks.due("was down", x.up(kind, which, true), false);
                Checks.due("sum", x.count(4 + kind), (1 << sizes[kind]) - 1);
            }
        }
    }

    private static void downTwiceAndUpTwice() {
        Checks.about("up: Answers whether it was (as it is told to be already)");
        Run x = Checks.requested(0, 1);
        Checks.settle(x);
        x.begin();
        x.write(1, 0, 1, 5);
        String before = x.all();
        for (int kind = 0; kind < 3; kind++) {
            Checks.due("was up", x.up(kind, 0, true), true);
        }
        Checks.due("all is as before", x.all(), before);
        for (int kind = 0; kind < 3; kind++) {
            Checks.due("was up", x.up(kind, 0, false), true);
        }
        String down = x.all();
        for (int kind = 0; kind < 3; kind++) {
            Checks.due("was not", x.up(kind, 0, false), false);
        }
        Checks.due("all is as it was down", x.all(), down);
    }

    private static void storesLoseTheirWork() {
        Checks.about("up: A STORE that is not UP any more is ABORTED for all TRANSACTIONS for"
            + " which it is WORKING");
        Run x = Checks.begun(1, 2);
        x.begin();
        x.write(1, 0, 1, 1);
        x.begin();
        x.up(Checks.STORE, 0, false);
        Checks.due("aborted", x.state(0, 0), 4);
        Checks.due("aborted", x.state(1, 0), 4);
        Checks.due("none stays none", x.state(2, 0), 0);
        Checks.due("another store", x.state(0, 1), 1);
        Checks.due("lock gone", x.lock(0, 0), -1);
        Checks.due("lock gone", x.lock(0, 1), -1);
        Checks.due("lock of another store", x.lock(1, 0), 0);
        Checks.due("no message", x.count(0), 0);
        x.up(Checks.STORE, 0, true);
        Checks.due("still aborted", x.state(0, 0), 4);
        Checks.due("free for another", x.write(2, 0, 0, 1), 1);
        x.up(Checks.STORE, 1, true);
        Checks.due("up again is no loss", x.state(0, 1), 1);
    }

    private static void preparedStoresKeepTheirs() {
        Checks.about("up: A STORE that is not UP any more (and PREPARED or COMMITTED)");
        Run x = Checks.requested(0, 2);
        Checks.bring(x, "Pt0s0");
        x.up(Checks.STORE, 0, false);
        Checks.due("prepared", x.state(0, 0), 2);
        Checks.due("lock", x.lock(0, 0), 0);
        x.up(Checks.STORE, 0, true);
        Checks.settle(x);
        Checks.due("committed", x.state(0, 0), 3);
        Checks.due("value", x.value(0, 0), 10);
        x.up(Checks.STORE, 0, false);
        Checks.due("stays committed", x.state(0, 0), 3);
        Checks.due("value stays", x.value(0, 0), 10);
    }

    private static void acceptorsForgetNothing() {
        Checks.about("up: ACCEPTORS forget nothing");
        Run x = Checks.requested(1, 1);
        Checks.bring(x, "Pt0s0", "Vt0s0a1b0Y");
        x.take(1, 0);
        Checks.bring(x, "At0a1b1");
        x.up(Checks.ACCEPTOR, 1, false);
        Checks.due("taken", x.taken(1, 0, 0, false), 1);
        Checks.due("promised", x.taken(1, 0, 0, true), 1);
        x.up(Checks.ACCEPTOR, 1, true);
        Checks.due("taken", x.taken(1, 0, 0, false), 1);
        Checks.due("promised", x.taken(1, 0, 0, true), 1);
    }

    private static void leadersForget() {
        Checks.about("up: A LEADER that is not UP any more forgets all it has of TRANSACTIONS");
        Run x = Checks.requested(1, 1);
        Checks.bring(x, "Pt0s0", "Vt0s0a0b0Y", "Vt0s0a1b0Y", "Vt0s0a2b0Y");
        Checks.bring(x, "Tt0s0a0l0b0Y");
        x.up(Checks.LEADER, 0, false);
        x.up(Checks.LEADER, 0, true);
        Checks.bring(x, "Tt0s0a1l0b0Y");
        Checks.due("the first is forgotten", x.known(0, 0), "-");
        Checks.bring(x, "Tt0s0a2l0b0Y");
        Checks.due("two again", x.known(0, 0), "Y");
        x.up(Checks.LEADER, 0, false);
        Checks.due("the outcome is forgotten", x.known(0, 0), "-");
        forgottenBallotsCountAsProposed();
        theOtherLeaderForgetsNothing();
    }

    private static void forgottenBallotsCountAsProposed() {
        Checks.about("up: but its BALLOTS, in which it counts as having PROPOSED");
        Run x = Checks.closed(1, 1);
        x.take(0, 0);
        Checks.bring(x, "At0a0b2", "At0a1b2", "At0a2b2", "Rt0a0l0b2---");
        x.up(Checks.LEADER, 0, false);
        x.up(Checks.LEADER, 0, true);
        Checks.bring(x, "Rt0a1l0b2---", "Rt0a2l0b2---");
        Checks.due("nothing is proposed", Checks.net(x), "");
        x.take(0, 0);
        Checks.bring(x, "At0a0b4", "At0a1b4", "At0a2b4", "Rt0a0l0b4---", "Rt0a1l0b4---");
        Checks.due("but in the next", Checks.net(x),
            "Rt0a2l0b4--- Vt0s0a0b4N Vt0s0a1b4N Vt0s0a2b4N");
    }

    private static void theOtherLeaderForgetsNothing() {
        Checks.about("up: A LEADER (the other one forgets nothing)");
        Run x = Checks.requested(0, 1);
        Checks.settle(x);
        x.up(Checks.LEADER, 1, false);
        Checks.due("leader 0", x.known(0, 0), "Y");
        Checks.due("leader 1", x.known(1, 0), "-");
    }

    private static void wrongInputs() {
        Checks.about("up: kind 0 a STORE 0 .. 2, 1 an ACCEPTOR 0 .. n - 1, 2 a LEADER 0, 1");
        int[][] wrong = {{-1, 0}, {3, 0}, {0, -1}, {0, 3}, {1, -1}, {1, 3}, {2, -1}, {2, 2}};
        Run x = new Run(1);
        Run y = new Run(0);
        for (int[] w : wrong) {
            Checks.dueThrow("range", Checks.ARGUMENT, () -> x.up(w[0], w[1], false) ? 1 : 0);
            Checks.dueThrow("range", Checks.ARGUMENT, () -> y.up(w[0], w[1], true) ? 1 : 0);
        }
        Checks.dueThrow("one alone", Checks.ARGUMENT, () -> y.up(1, 1, false) ? 1 : 0);
        Checks.dueThrow("one alone", Checks.ARGUMENT, () -> y.up(1, 2, false) ? 1 : 0);
        Checks.due("stores", x.count(4), 7);
        Checks.due("acceptors", x.count(5), 7);
        Checks.due("leaders", x.count(6), 3);
    }
}
