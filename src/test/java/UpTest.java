/** Promise 9: up. */
public final class UpTest {
    public static void main(String[] args) {
        answersWhatWas();
        storesLoseTheirWork();
        preparedStoresKeepTheirs();
        acceptorsForgetNothing();
        leadersForget();
        wrongInputs();
        Checks.end();
    }

    private static void answersWhatWas() {
        PaxosCommit x = new PaxosCommit(1);
        int[] sizes = {3, 3, 2};
        for (int kind = 0; kind < 3; kind++) {
            for (int which = 0; which < sizes[kind]; which++) {
                Checks.due("was up", x.up(kind, which, true), true);
                Checks.due("was up", x.up(kind, which, false), true);
                Checks.due("was down", x.up(kind, which, false), false);
                Checks.due("sum", x.count(4 + kind), (1 << sizes[kind]) - 1 - (1 << which));
                Checks.due("was down", x.up(kind, which, true), false);
                Checks.due("sum", x.count(4 + kind), (1 << sizes[kind]) - 1);
            }
        }
    }

    private static void storesLoseTheirWork() {
        PaxosCommit x = Checks.begun(1, 2);
        x.begin();
        x.write(1, 0, 1, 1);
        x.begin();
        x.up(Checks.STORE, 0, false);
        Checks.due("aborted", x.state(0, 0), 4);
        Checks.due("aborted", x.state(1, 0), 4);
        Checks.due("none stays none", x.state(2, 0), 0);
        Checks.due("another store", x.state(0, 1), 1);
        Checks.due("lock gone", x.lock(0, 0), -1);
        Checks.due("lock gone", x.lock(0, 1), -1);
        Checks.due("lock of another store", x.lock(1, 0), 0);
        Checks.due("no message", x.count(0), 0);
        x.up(Checks.STORE, 0, true);
        Checks.due("still aborted", x.state(0, 0), 4);
        Checks.due("free for another", x.write(2, 0, 0, 1), 1);
        x.up(Checks.STORE, 1, true);
        Checks.due("up again is no loss", x.state(0, 1), 1);
    }

    private static void preparedStoresKeepTheirs() {
        PaxosCommit x = Checks.requested(0, 2);
        Checks.bring(x, "Pt0s0");
        x.up(Checks.STORE, 0, false);
        Checks.due("prepared", x.state(0, 0), 2);
        Checks.due("lock", x.lock(0, 0), 0);
        x.up(Checks.STORE, 0, true);
        Checks.settle(x);
        Checks.due("committed", x.state(0, 0), 3);
        Checks.due("value", x.value(0, 0), 10);
        x.up(Checks.STORE, 0, false);
        Checks.due("stays committed", x.state(0, 0), 3);
        Checks.due("value stays", x.value(0, 0), 10);
    }

    private static void acceptorsForgetNothing() {
        PaxosCommit x = Checks.requested(1, 1);
        Checks.bring(x, "Pt0s0", "Vt0s0a1b0Y");
        x.take(1, 0);
        Checks.bring(x, "At0a1b1");
        x.up(Checks.ACCEPTOR, 1, false);
        Checks.due("taken", x.taken(1, 0, 0, false), 1);
        Checks.due("promised", x.taken(1, 0, 0, true), 1);
        x.up(Checks.ACCEPTOR, 1, true);
        Checks.due("taken", x.taken(1, 0, 0, false), 1);
        Checks.due("promised", x.taken(1, 0, 0, true), 1);
    }

    private static void leadersForget() {
        PaxosCommit x = Checks.requested(1, 1);
        Checks.bring(x, "Pt0s0", "Vt0s0a0b0Y", "Vt0s0a1b0Y", "Vt0s0a2b0Y");
        Checks.bring(x, "Tt0s0a0l0b0Y");
        x.up(Checks.LEADER, 0, false);
        x.up(Checks.LEADER, 0, true);
        Checks.bring(x, "Tt0s0a1l0b0Y");
        Checks.due("the first is forgotten", Checks.known(x, 0, 0), "-");
        Checks.bring(x, "Tt0s0a2l0b0Y");
        Checks.due("two again", Checks.known(x, 0, 0), "Y");
        x.up(Checks.LEADER, 0, false);
        Checks.due("the outcome is forgotten", Checks.known(x, 0, 0), "-");
        forgottenBallotsCountAsProposed();
        theOtherLeaderForgetsNothing();
    }

    private static void forgottenBallotsCountAsProposed() {
        PaxosCommit x = Checks.closed(1, 1);
        x.take(0, 0);
        Checks.bring(x, "At0a0b2", "At0a1b2", "At0a2b2", "Rt0a0l0b2---");
        x.up(Checks.LEADER, 0, false);
        x.up(Checks.LEADER, 0, true);
        Checks.bring(x, "Rt0a1l0b2---", "Rt0a2l0b2---");
        Checks.due("nothing is proposed", Checks.net(x), "");
        x.take(0, 0);
        Checks.bring(x, "At0a0b4", "At0a1b4", "At0a2b4", "Rt0a0l0b4---", "Rt0a1l0b4---");
        Checks.due("but in the next", Checks.net(x),
            "Rt0a2l0b4--- Vt0s0a0b4N Vt0s0a1b4N Vt0s0a2b4N");
    }

    private static void theOtherLeaderForgetsNothing() {
        PaxosCommit x = Checks.requested(0, 1);
        Checks.settle(x);
        x.up(Checks.LEADER, 1, false);
        Checks.due("leader 0", Checks.known(x, 0, 0), "Y");
        Checks.due("leader 1", Checks.known(x, 1, 0), "-");
    }

    private static void wrongInputs() {
        int[][] wrong = {{-1, 0}, {3, 0}, {0, -1}, {0, 3}, {1, -1}, {1, 3}, {2, -1}, {2, 2}};
        PaxosCommit x = new PaxosCommit(1);
        PaxosCommit y = new PaxosCommit(0);
        for (int[] w : wrong) {
            Checks.dueThrow("range", Checks.ARGUMENT, () -> x.up(w[0], w[1], false) ? 1 : 0);
            Checks.dueThrow("range", Checks.ARGUMENT, () -> y.up(w[0], w[1], true) ? 1 : 0);
        }
        Checks.dueThrow("one alone", Checks.ARGUMENT, () -> y.up(1, 1, false) ? 1 : 0);
        Checks.dueThrow("one alone", Checks.ARGUMENT, () -> y.up(1, 2, false) ? 1 : 0);
        Checks.due("stores", x.count(4), 7);
        Checks.due("acceptors", x.count(5), 7);
        Checks.due("leaders", x.count(6), 3);
    }
}
