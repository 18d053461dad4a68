/** Promise 10: text. */
public final class TextTest {
    public static void main(String[] args) {
        everyKind();
        replies();
        longBallots();
        edges();
        Checks.end();
    }

    private static void everyKind() {
        Checks.about("text: The code of character k, from 0, of the TEXT of MESSAGE i");
        Run x = new Run(1);
        for (int t = 0; t < 8; t++) {
            x.begin();
        }
        x.write(7, 2, 3, 1);
        x.request(7);
        Checks.due("prepare", Checks.net(x), "Pt7s2");
        x.deliver(0, false);
        Checks.due("vote", Checks.net(x), "Vt7s2a0b0Y Vt7s2a1b0Y Vt7s2a2b0Y");
        x.deliver(1, false);
        Checks.due("told", Checks.net(x), "Vt7s2a0b0Y Vt7s2a2b0Y Tt7s2a1l0b0Y Tt7s2a1l1b0Y");
        x.deliver(1, false);
        Checks.bring(x, "Tt7s2a1l0b0Y", "Tt7s2a2l0b0Y");
        Checks.due("outcome", x.textOf(x.count(0) - 1), "Ot7s2Y");
        Checks.empty(x);
        x.write(6, 1, 1, 1);
        x.refuse(6, 1);
        Checks.due("vote", Checks.net(x), "Vt6s1a0b0N Vt6s1a1b0N Vt6s1a2b0N");
        Checks.bring(x, "Vt6s1a0b0N", "Vt6s1a1b0N", "Tt6s1a0l1b0N", "Tt6s1a1l1b0N");
        Checks.due("outcome", x.textOf(x.count(0) - 1), "Ot6s1N");
        Checks.empty(x);
        x.take(1, 7);
        Checks.due("ask", Checks.net(x), "At7a0b1 At7a1b1 At7a2b1");
    }

    private static void replies() {
        Checks.about("text: a REPLY ends with, for each STORE in order, - if nothing is TAKEN,"
            + " else its BALLOT and Y or N");
        Run x = Checks.requested(1, 2);
        Checks.bring(x, "Pt0s1", "Vt0s1a0b0Y");
        x.take(0, 0);
        x.take(1, 0);
        Checks.bring(x, "At0a0b1");
        Checks.due("reply", x.textOf(x.count(0) - 1), "Rt0a0l1b1-0Y-");
        Checks.bring(x, "At0a1b1", "Rt0a0l1b1-0Y-", "Rt0a1l1b1---", "Vt0s0a0b1N", "Vt0s1a0b1Y");
        Checks.bring(x, "At0a0b2");
        Checks.due("reply", x.textOf(x.count(0) - 1), "Rt0a0l0b21N1Y-");
    }

    private static void longBallots() {
        Checks.about("text: b and the BALLOT (of more than one digit)");
        Run x = Checks.closed(0, 3);
        for (int i = 0; i < 60; i++) {
            x.take(0, 0);
            x.lose(0);
        }
        x.take(0, 0);
        Checks.due("ask", Checks.net(x), "At0a0b122");
        x.deliver(0, false);
        Checks.due("reply", Checks.net(x), "Rt0a0l0b122---");
        x.deliver(0, false);
        Checks.due("votes", Checks.net(x), "Vt0s0a0b122N Vt0s1a0b122N Vt0s2a0b122N");
        x.deliver(0, false);
        x.deliver(0, false);
        x.deliver(0, false);
        Checks.due("told", x.textOf(5), "Tt0s2a0l1b122N");
        x.take(0, 0);
        Checks.bring(x, "At0a0b124");
        Checks.due("reply", x.textOf(6), "Rt0a0l0b124122N122N122N");
    }

    private static void edges() {
        Checks.about("text: -1 behind its end; there is no such MESSAGE:"
            + " IndexOutOfBoundsException. k below 0: IllegalArgumentException");
        Run x = Checks.requested(1, 1);
        Checks.due("first", x.text(0, 0), 'P');
        Checks.due("last", x.text(0, 4), '0');
        Checks.due("behind", x.text(0, 5), -1);
        Checks.due("far behind", x.text(0, Integer.MAX_VALUE), -1);
        Checks.dueThrow("below", Checks.ARGUMENT, () -> x.text(0, -1));
        Checks.dueThrow("below", Checks.ARGUMENT, () -> x.text(0, Integer.MIN_VALUE));
        Checks.dueThrow("no message", Checks.INDEX, () -> x.text(1, 0));
        Checks.dueThrow("no message", Checks.INDEX, () -> x.text(-1, 0));
        Checks.dueThrow("no message", Checks.INDEX, () -> x.text(60, 0));
        Checks.dueThrow("neither", Checks.ARGUMENT, () -> x.text(1, -1));
        Checks.dueThrow("neither", Checks.ARGUMENT, () -> x.text(-1, -1));
        Checks.dueThrow("no message", Checks.INDEX, () -> x.text(Integer.MAX_VALUE, 0));
        Checks.dueThrow("no message", Checks.INDEX, () -> x.text(Integer.MIN_VALUE, 0));
        Run y = new Run(1);
        Checks.dueThrow("an empty net", Checks.INDEX, () -> y.text(0, 0));
        Checks.due("all is there yet", Checks.net(x), "Pt0s0");
    }
}
