/** Promise 15: taken. */
public final class TakenTest {
    public static void main(String[] args) {
        ofVotes();
        ofAsks();
        wrongInputs();
        Checks.end();
    }

    private static void ofVotes() {
        Checks.about("taken: 2 times the BALLOT that it has TAKEN, plus 1 for YES, -1 for nothing");
        Run x = Checks.requested(1, 2);
        Checks.bring(x, "Pt0s0");
        x.refuse(0, 1);
        Checks.bring(x, "Vt0s0a1b0Y", "Vt0s1a1b0N");
        Checks.due("yes of 0", x.taken(1, 0, 0, false), 1);
        Checks.due("no of 0", x.taken(1, 0, 1, false), 0);
        Checks.due("nothing", x.taken(1, 0, 2, false), -1);
        Checks.due("another acceptor", x.taken(0, 0, 0, false), -1);
        Checks.due("promised", x.taken(1, 0, 0, true), 0);
        x.take(1, 0);
        x.take(1, 0);
        Checks.bring(x, "At0a1b3", "At0a2b3", "Rt0a1l1b30Y0N-", "Rt0a2l1b3---");
        Checks.bring(x, "Vt0s0a0b3Y", "Vt0s1a0b3N");
        Checks.due("yes of 3", x.taken(0, 0, 0, false), 7);
        Checks.due("no of 3", x.taken(0, 0, 1, false), 6);
        Checks.due("promised by a vote", x.taken(0, 0, 0, true), 3);
        Checks.due("promised for the other store", x.taken(0, 0, 2, true), 0);
    }

    private static void ofAsks() {
        Checks.about("taken: promised: the BALLOT that it PROMISED");
        Run x = Checks.closed(0, 2);
        x.begin();
        x.take(0, 0);
        Checks.bring(x, "At0a0b2");
        Checks.due("promised", x.taken(0, 0, 0, true), 2);
        Checks.due("promised", x.taken(0, 0, 1, true), 2);
        Checks.due("no member", x.taken(0, 0, 2, true), 0);
        Checks.due("another transaction", x.taken(0, 1, 0, true), 0);
        Checks.due("nothing taken", x.taken(0, 0, 0, false), -1);
        x.up(Checks.ACCEPTOR, 0, false);
        Checks.due("of one that is down", x.taken(0, 0, 1, true), 2);
    }

    private static void wrongInputs() {
        Checks.about("taken: IllegalArgumentException, then NoSuchElementException");
        Run x = new Run(1);
        int[][] wrong = {{-1, 0, 0}, {3, 0, 0}, {0, -1, 0}, {0, 8, 0}, {0, 0, -1}, {0, 0, 3}};
        for (int[] w : wrong) {
            Checks.dueThrow("range", Checks.ARGUMENT, () -> x.taken(w[0], w[1], w[2], true));
            Checks.dueThrow("range", Checks.ARGUMENT, () -> x.taken(w[0], w[1], w[2], false));
        }
        Checks.dueThrow("no such", Checks.NO_SUCH, () -> x.taken(2, 0, 2, true));
        Run y = new Run(0);
        Checks.dueThrow("one alone", Checks.ARGUMENT, () -> y.taken(1, 0, 0, true));
        y.begin();
        Checks.dueThrow("one alone", Checks.ARGUMENT, () -> y.taken(1, 0, 0, false));
        Checks.due("the one", y.taken(0, 0, 2, false), -1);
    }
}
