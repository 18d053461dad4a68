/** Promise 7: deliver, as far as the net goes; MessagesTest has what each message does. */
public final class DeliverTest {
    public static void main(String[] args) {
        takesOutAndArrives();
        staysWhereItIs();
        takesOutBeforeItArrives();
        losesNothingWithoutReason();
        wrongInputs();
        Checks.end();
    }

    private static void takesOutAndArrives() {
        Checks.about("deliver: It is taken out of the NET, then it arrives. Answers how many"
            + " MESSAGES there are then");
        Run x = Checks.requested(0, 3);
        Checks.due("one out, one sent", x.deliver(1, false), 3);
        Checks.due("net", Checks.net(x), "Pt0s0 Pt0s2 Vt0s1a0b0Y");
        x.up(Checks.STORE, 2, false);
        Checks.due("one out, none sent", x.deliver(1, false), 2);
        Checks.due("net", Checks.net(x), "Pt0s0 Vt0s1a0b0Y");
        Checks.due("one out, two sent", x.deliver(1, false), 3);
        Checks.due("net", Checks.net(x), "Pt0s0 Tt0s1a0l0b0Y Tt0s1a0l1b0Y");
    }

    private static void staysWhereItIs() {
        Checks.about("deliver: It is taken out of the NET (not with stays)");
        Run x = Checks.requested(0, 2);
        Checks.due("stays", x.deliver(0, true), 3);
        Checks.due("net", Checks.net(x), "Pt0s0 Pt0s1 Vt0s0a0b0Y");
        Checks.due("prepared", x.state(0, 0), 2);
        Checks.due("again, in vain", x.deliver(0, true), 3);
        x.up(Checks.STORE, 0, false);
        Checks.due("nobody there", x.deliver(0, true), 3);
        Checks.due("nobody there", x.deliver(0, false), 2);
        Checks.due("vote stays", x.deliver(1, true), 4);
        Checks.due("vote stays", x.deliver(1, true), 6);
        Checks.due("net", Checks.net(x),
            "Pt0s1 Vt0s0a0b0Y Tt0s0a0l0b0Y Tt0s0a0l1b0Y Tt0s0a0l0b0Y Tt0s0a0l1b0Y");
    }

    private static void takesOutBeforeItArrives() {
        Checks.about("deliver: It is taken out of the NET, then it arrives (in a full NET)");
        Run x = Checks.closed(0, 1);
        for (int i = 0; i < 60; i++) {
            x.take(0, 0);
        }
        Checks.due("full", x.count(0), 60);
        Checks.due("its place is free", x.deliver(0, false), 60);
        Checks.due("the reply is in", x.textOf(59), "Rt0a0l0b2---");
        Checks.due("none lost", x.count(1), 0);
        Checks.due("its place is not free", x.deliver(0, true), 60);
        Checks.due("the reply is lost", x.count(1), 1);
        Checks.due("last one stays", x.textOf(59), "Rt0a0l0b2---");
        Checks.due("last one goes", x.deliver(59, false), 59);
    }

    /** A message that arrives keeps its own words while others are sent in its place. */
    private static void losesNothingWithoutReason() {
        Checks.about("deliver: then it arrives (the last one of the NET)");
        Run x = Checks.closed(1, 3);
        x.take(1, 0);
        Checks.bring(x, "At0a2b1", "At0a0b1", "Rt0a2l1b1---");
        Checks.due("net", Checks.net(x), "At0a1b1 Rt0a0l1b1---");
        Checks.due("nine votes", x.deliver(1, false), 10);
        Checks.due("net", Checks.net(x), "At0a1b1 Vt0s0a0b1N Vt0s0a1b1N Vt0s0a2b1N"
            + " Vt0s1a0b1N Vt0s1a1b1N Vt0s1a2b1N Vt0s2a0b1N Vt0s2a1b1N Vt0s2a2b1N");
        Checks.due("two told", x.deliver(9, false), 11);
        Checks.due("told", x.textOf(9), "Tt0s2a2l0b1N");
        Checks.due("told", x.textOf(10), "Tt0s2a2l1b1N");
    }

    private static void wrongInputs() {
        Checks.about("deliver: MESSAGE i of the NET, from 0; there is none:"
            + " IndexOutOfBoundsException");
        Run x = new Run(1);
        int[] none = {0, 1, 59, 60, -1, Integer.MIN_VALUE, Integer.MAX_VALUE};
        for (int i : none) {
            Checks.dueThrow("empty", Checks.INDEX, () -> x.deliver(i, false));
            Checks.dueThrow("empty", Checks.INDEX, () -> x.deliver(i, true));
        }
        Run y = Checks.requested(1, 2);
        String before = y.all();
        Checks.dueThrow("below", Checks.INDEX, () -> y.deliver(-1, false));
        Checks.dueThrow("behind", Checks.INDEX, () -> y.deliver(2, false));
        Checks.due("all is as before", y.all(), before);
    }
}
