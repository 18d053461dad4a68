/** Terms: what messages do where they arrive, nothing where one is not UP; and reading it then. */
public final class NotUpTest {
    public static void main(String[] args) {
        prepare();
        outcome();
        ask();
        vote();
        reply();
        told();
        sentToThemAllTheSame();
        looksAreAnswered();
        Checks.end();
    }

    private static void prepare() {
        Checks.about("(nothing where one is not UP): a PREPARE");
        Run x = Checks.requested(1, 2);
        x.up(Checks.STORE, 0, false);
        String before = x.all();
        Checks.due("stays", x.deliver(0, true), 2);
        Checks.due("nothing", x.all(), before);
        Checks.due("it is taken out all the same", x.deliver(0, false), 1);
        Checks.due("no vote", Checks.net(x), "Pt0s1");
        Checks.due("one that is up", x.deliver(0, false), 3);
        Run y = Checks.requested(1, 2);
        y.up(Checks.STORE, 0, false);
        y.deliver(0, true);
        y.up(Checks.STORE, 0, true);
        y.deliver(0, true);
        Checks.due("kept back until it is up", y.textOf(2), "Vt0s0a0b0N");
    }

    private static void outcome() {
        Checks.about("(nothing where one is not UP): an OUTCOME");
        Run x = Checks.requested(0, 2);
        Checks.bring(x, "Pt0s0", "Pt0s1", "Vt0s0a0b0Y", "Vt0s1a0b0Y");
        Checks.bring(x, "Tt0s0a0l0b0Y", "Tt0s1a0l0b0Y");
        x.up(Checks.STORE, 0, false);
        Checks.bringTwin(x, "Ot0s0Y");
        Checks.due("prepared yet", x.state(0, 0), 2);
        Checks.due("locked yet", x.lock(0, 0), 0);
        Checks.due("no value", x.value(0, 0), 0);
        Checks.bring(x, "Ot0s1Y");
        Checks.due("one that is up", x.value(1, 0), 11);
        x.up(Checks.STORE, 0, true);
        Checks.bring(x, "Ot0s0Y");
        Checks.due("kept back until it is up", x.value(0, 0), 10);
        Checks.due("committed", x.state(0, 0), 3);
    }

    private static void ask() {
        Checks.about("(nothing where one is not UP): an ASK");
        Run x = Checks.closed(1, 1);
        x.take(0, 0);
        x.up(Checks.ACCEPTOR, 1, false);
        Checks.bringTwin(x, "At0a1b2");
        Checks.due("no reply", Checks.net(x), "At0a0b2 At0a1b2 At0a2b2");
        Checks.due("no promise", x.taken(1, 0, 0, true), 0);
        Checks.bring(x, "At0a0b2");
        Checks.due("one that is up", x.taken(0, 0, 0, true), 2);
        x.up(Checks.ACCEPTOR, 1, true);
        Checks.bring(x, "At0a1b2");
        Checks.due("kept back until it is up", x.taken(1, 0, 0, true), 2);
    }

    private static void vote() {
        Checks.about("(nothing where one is not UP): a VOTE");
        Run x = Checks.requested(1, 1);
        Checks.bring(x, "Pt0s0");
        x.up(Checks.ACCEPTOR, 2, false);
        Checks.bringTwin(x, "Vt0s0a2b0Y");
        Checks.due("none told", Checks.net(x), "Vt0s0a0b0Y Vt0s0a1b0Y Vt0s0a2b0Y");
        Checks.due("not taken", x.taken(2, 0, 0, false), -1);
        Checks.bring(x, "Vt0s0a1b0Y");
        Checks.due("one that is up", x.taken(1, 0, 0, false), 1);
        x.up(Checks.ACCEPTOR, 2, true);
        Checks.bring(x, "Vt0s0a2b0Y");
        Checks.due("kept back until it is up", x.taken(2, 0, 0, false), 1);
    }

    private static void reply() {
        Checks.about("(nothing where one is not UP): a REPLY");
        Run x = Checks.closed(0, 1);
        x.take(1, 0);
        x.take(0, 0);
        Checks.bring(x, "At0a0b1", "At0a0b2");
        x.up(Checks.LEADER, 1, false);
        Checks.due("net", Checks.net(x), "Rt0a0l1b1--- Rt0a0l0b2---");
        Checks.due("nothing", x.deliver(0, true), 2);
        Checks.due("taken out", x.deliver(0, false), 1);
        Checks.due("one that is up", x.deliver(0, false), 1);
        Checks.due("proposes", Checks.net(x), "Vt0s0a0b2N");
    }

    private static void told() {
        Checks.about("(nothing where one is not UP): a TOLD");
        Run x = Checks.requested(0, 1);
        Checks.bring(x, "Pt0s0", "Vt0s0a0b0Y");
        x.up(Checks.LEADER, 1, false);
        Checks.bringTwin(x, "Tt0s0a0l1b0Y");
        Checks.due("no outcome sent", Checks.net(x), "Tt0s0a0l0b0Y Tt0s0a0l1b0Y");
        Checks.dueThrow("nothing known", Checks.STATE, () -> x.outcome(1, 0));
        Checks.bring(x, "Tt0s0a0l0b0Y");
        Checks.due("one that is up", x.known(0, 0), "Y");
        x.up(Checks.LEADER, 1, true);
        Checks.dueThrow("nothing known when up", Checks.STATE, () -> x.outcome(1, 0));
        Checks.bring(x, "Tt0s0a0l1b0Y");
        Checks.due("kept back until it is up", x.known(1, 0), "Y");
    }

    private static void sentToThemAllTheSame() {
        Checks.about("what is sent is sent to those that are not UP, too");
        Run x = Checks.begun(1, 2);
        x.up(Checks.STORE, 1, false);
        Checks.due("members", x.request(0), 2);
        Checks.due("a PREPARE", Checks.net(x), "Pt0s0 Pt0s1");
        x.up(Checks.LEADER, 0, false);
        x.up(Checks.LEADER, 1, false);
        x.refuse(0, 0);
        Checks.bring(x, "Vt0s0a0b0N");
        Checks.due("a TOLD", x.textOf(x.count(0) - 2), "Tt0s0a0l0b0N");
        Checks.due("a TOLD", x.textOf(x.count(0) - 1), "Tt0s0a0l1b0N");
        Run y = Checks.closed(0, 1);
        y.take(1, 0);
        y.up(Checks.LEADER, 1, false);
        Checks.bring(y, "At0a0b1");
        Checks.due("a REPLY", Checks.net(y), "Rt0a0l1b1---");
        Run z = Checks.begun(0, 2);
        z.refuse(0, 0);
        z.up(Checks.STORE, 0, false);
        z.up(Checks.STORE, 1, false);
        Checks.bring(z, "Vt0s0a0b0N", "Tt0s0a0l0b0N");
        Checks.due("an OUTCOME", Checks.net(z), "Tt0s0a0l1b0N Ot0s0N Ot0s1N");
    }

    private static void looksAreAnswered() {
        Checks.about("value, lock, state, taken: of what is not UP, too");
        Run x = Checks.requested(0, 1);
        Checks.settle(x);
        x.begin();
        x.write(1, 0, 3, 4);
        x.request(1);
        Checks.bring(x, "Pt1s0");
        x.up(Checks.STORE, 0, false);
        x.up(Checks.ACCEPTOR, 0, false);
        x.up(Checks.LEADER, 0, false);
        Checks.due("value", x.value(0, 0), 10);
        Checks.due("lock", x.lock(0, 3), 1);
        Checks.due("state", x.state(1, 0), 2);
        Checks.due("taken", x.taken(0, 0, 0, false), 1);
        Checks.due("the other leader", x.outcome(1, 0), 0);
        Checks.dueThrow("a leader has forgotten", Checks.STATE, () -> x.outcome(0, 0));
        x.take(1, 1);
        Checks.due("a leader that is up asks", x.textOf(1), "At1a0b1");
    }
}
