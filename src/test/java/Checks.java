/** What the tests share: comparing answers, and reading and moving messages by their texts. */
final class Checks {
    interface Call {
        long answer();
    }

    static final Class<?> ARGUMENT = IllegalArgumentException.class;
    static final Class<?> NO_SUCH = java.util.NoSuchElementException.class;
    static final Class<?> STATE = IllegalStateException.class;
    static final Class<?> UNSUPPORTED = UnsupportedOperationException.class;
    static final Class<?> INDEX = IndexOutOfBoundsException.class;

    static final int STORE = 0;
    static final int ACCEPTOR = 1;
    static final int LEADER = 2;

    private static int wrong = 0;
    private static int made = 0;
    /** What the document says that the checks are about, and how many were made before it. */
    private static String sentence = "";
    private static int madeBefore = -1;

    private Checks() {
    }

    /** The next checks are about this sentence of the document; there must be one at least. */
    static void about(String next) {
        if (made == madeBefore) {
            wrong++;
            System.out.println(sentence + " has no check");
        }
        sentence = next;
        madeBefore = made;
    }

    static void due(String what, long got, long want) {
        due(what, String.valueOf(got), String.valueOf(want));
    }

    static void due(String what, boolean got, boolean want) {
        due(what, String.valueOf(got), String.valueOf(want));
    }

    static void due(String what, String got, String want) {
        made++;
        if (!got.equals(want)) {
            wrong++;
            String place = sentence.isEmpty() ? what : "[" + sentence + "] " + what;
            System.out.println(place + ": answered " + got + ", due is " + want);
        }
    }

    /** The exact class is due: a subclass of it, as the JVM throws some, tells of an accident. */
    static void dueThrow(String what, Class<?> want, Call call) {
        String got;
        try {
            got = String.valueOf(call.answer());
        } catch (RuntimeException e) {
            got = e.getClass().getName();
        }
        due(what, got, want.getName());
    }

    static void end() {
        about("");
        System.out.println(made + " checks, " + wrong + " wrong");
        if (wrong != 0 || made == 0) {
            System.exit(1);
        }
    }

    /** The texts of all messages in the net, in order, with blanks between them. */
    static String net(Run x) {
        return String.join(" ", x.texts());
    }

    static int find(Run x, String text) {
        int i = x.texts().indexOf(text);
        if (i < 0) {
            due("the net has " + text, net(x), "a net with it");
        }
        return i;
    }

    static void dueInNet(String what, Run x, String text) {
        due(what, x.texts().contains(text) ? text : net(x), text);
    }

    /** Delivers the messages with these texts, one after the other, and takes them out. */
    static void bring(Run x, String... texts) {
        for (String text : texts) {
            int i = find(x, text);
            if (i >= 0) {
                x.deliver(i, false);
            }
        }
    }

    /** Delivers the message with this text and leaves it in the net. */
    static void bringTwin(Run x, String text) {
        int i = find(x, text);
        if (i >= 0) {
            x.deliver(i, true);
        }
    }

    static void empty(Run x) {
        int left = x.count(0);
        while (left > 0) {
            left = x.lose(0);
        }
    }

    /** Delivers the first message until there is none. */
    static void settle(Run x) {
        int left = x.count(0);
        while (left > 0) {
            left = x.deliver(0, false);
        }
    }

    /** Puts ASKs of leader 1 behind what is in the net until it has this many messages. */
    static void fill(Run x, int transaction, int size) {
        int has = x.count(0);
        while (has < size) {
            x.take(1, transaction);
            has = x.count(0);
        }
        while (has > size) {
            has = x.lose(has - 1);
        }
    }

    /** A new object with transaction 0, which has written key 0 of the first stores. */
    static Run begun(int f, int stores) {
        Run x = new Run(f);
        x.begin();
        for (int s = 0; s < stores; s++) {
            x.write(0, s, 0, 10 + s);
        }
        return x;
    }

    /** Likewise with transaction 0 closed and the net empty. */
    static Run closed(int f, int stores) {
        Run x = begun(f, stores);
        x.request(0);
        empty(x);
        return x;
    }

    /** Likewise with the PREPAREs in the net. */
    static Run requested(int f, int stores) {
        Run x = begun(f, stores);
        x.request(0);
        return x;
    }
}
