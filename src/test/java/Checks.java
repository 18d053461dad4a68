import java.util.ArrayList;
import java.util.List;

/** What the tests share: comparing answers, and reading and moving messages by their texts. */
final class Checks {
    interface Call {
        long answer();
    }

    static final Class<?> ARGUMENT = IllegalArgumentException.class;
    static final Class<?> NO_SUCH = java.util.NoSuchElementException.class;
    static final Class<?> STATE = IllegalStateException.class;
    static final Class<?> UNSUPPORTED = UnsupportedOperationException.class;
    static final Class<?> INDEX = IndexOutOfBoundsException.class;

    static final int STORE = 0;
    static final int ACCEPTOR = 1;
    static final int LEADER = 2;

    private static int wrong = 0;
    private static int made = 0;

    private Checks() {
    }

    static void due(String what, long got, long want) {
        due(what, String.valueOf(got), String.valueOf(want));
    }

    static void due(String what, boolean got, boolean want) {
        due(what, String.valueOf(got), String.valueOf(want));
    }

    static void due(String what, String got, String want) {
        made++;
        if (!got.equals(want)) {
            wrong++;
            System.out.println(what + ": answered " + got + ", due is " + want);
        }
    }

    /** The exact class is due: a subclass, as of IndexOutOfBoundsException, tells of an accident. */
    static void dueThrow(String what, Class<?> want, Call call) {
        String got;
        try {
            got = String.valueOf(call.answer());
        } catch (RuntimeException e) {
            got = e.getClass().getName();
        }
        due(what, got, want.getName());
    }

    static void end() {
        System.out.println(made + " checks, " + wrong + " wrong");
        if (wrong != 0 || made == 0) {
            System.exit(1);
        }
    }

    static String textOf(PaxosCommit x, int i) {
        StringBuilder line = new StringBuilder();
        for (int k = 0; k < 100 && x.text(i, k) != -1; k++) {
            line.append((char) x.text(i, k));
        }
        return line.toString();
    }

    /** The texts of all messages in the net, in order, with blanks between them. */
    static String net(PaxosCommit x) {
        List<String> texts = new ArrayList<>();
        for (int i = 0; i < x.count(0); i++) {
            texts.add(textOf(x, i));
        }
        return String.join(" ", texts);
    }

    static int find(PaxosCommit x, String text) {
        for (int i = 0; i < x.count(0); i++) {
            if (textOf(x, i).equals(text)) {
                return i;
            }
        }
        due("the net has " + text, net(x), "a net with it");
        return -1;
    }

    /** Delivers the messages with these texts, one after the other, and takes them out. */
    static void bring(PaxosCommit x, String... texts) {
        for (String text : texts) {
            int i = find(x, text);
            if (i >= 0) {
                x.deliver(i, false);
            }
        }
    }

    /** Delivers the message with this text and leaves it in the net. */
    static void bringTwin(PaxosCommit x, String text) {
        int i = find(x, text);
        if (i >= 0) {
            x.deliver(i, true);
        }
    }

    static void empty(PaxosCommit x) {
        while (x.count(0) > 0) {
            x.lose(0);
        }
    }

    static void settle(PaxosCommit x) {
        for (int i = 0; i < 400 && x.count(0) > 0; i++) {
            x.deliver(0, false);
        }
    }

    /** A new object with transaction 0, which has written key 0 of the first stores. */
    static PaxosCommit begun(int f, int stores) {
        PaxosCommit x = new PaxosCommit(f);
        x.begin();
        for (int s = 0; s < stores; s++) {
            x.write(0, s, 0, 10 + s);
        }
        return x;
    }

    /** Likewise with transaction 0 closed and the net empty. */
    static PaxosCommit closed(int f, int stores) {
        PaxosCommit x = begun(f, stores);
        x.request(0);
        empty(x);
        return x;
    }

    /** Likewise with the PREPAREs in the net. */
    static PaxosCommit requested(int f, int stores) {
        PaxosCommit x = begun(f, stores);
        x.request(0);
        return x;
    }

    /** All that can be asked of an object, for comparing before and after. */
    static String all(PaxosCommit x) {
        StringBuilder line = new StringBuilder(net(x));
        for (int what = 0; what < 7; what++) {
            line.append(' ').append(x.count(what));
        }
        for (int s = 0; s < 3; s++) {
            for (int k = 0; k < 4; k++) {
                line.append(' ').append(x.value(s, k)).append(',').append(x.lock(s, k));
            }
        }
        for (int t = 0; t < x.count(2); t++) {
            for (int s = 0; s < 3; s++) {
                line.append(' ').append(x.state(t, s));
                for (int a = 0; a < x.count(3); a++) {
                    line.append(',').append(x.taken(a, t, s, false));
                    line.append(',').append(x.taken(a, t, s, true));
                }
            }
            line.append(' ').append(known(x, 0, t)).append(known(x, 1, t));
        }
        return line.toString();
    }

    /** What a leader knows, as a letter, - for nothing. */
    static String known(PaxosCommit x, int leader, int transaction) {
        try {
            return x.outcome(leader, transaction) == 0 ? "Y" : "N";
        } catch (IllegalStateException e) {
            return "-";
        }
    }
}
