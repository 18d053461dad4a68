import java.util.ArrayList;
import java.util.List;

/**
 * A PaxosCommit that is looked at as much as a test likes. The document promises nothing behind an
 * object's 512th call, and to read a net takes hundreds of calls: so whole texts and states are
 * read from further objects, on which the calls that can change something are made anew.
 */
final class Run {
    private static final int MOST_CALLS = 512;

    private interface Move {
        void on(PaxosCommit object);
    }

    private final int f;
    private final PaxosCommit object;
    private final List<Move> moves = new ArrayList<>();
    private int calls = 0;

    Run(int f) {
        this.f = f;
        object = new PaxosCommit(f);
    }

    int begin() {
        move(x -> x.begin());
        return object.begin();
    }

    int write(int transaction, int store, int key, int value) {
        move(x -> x.write(transaction, store, key, value));
        return object.write(transaction, store, key, value);
    }

    int request(int transaction) {
        move(x -> x.request(transaction));
        return object.request(transaction);
    }

    int refuse(int transaction, int store) {
        move(x -> x.refuse(transaction, store));
        return object.refuse(transaction, store);
    }

    int take(int leader, int transaction) {
        move(x -> x.take(leader, transaction));
        return object.take(leader, transaction);
    }

    int deliver(int i, boolean stays) {
        move(x -> x.deliver(i, stays));
        return object.deliver(i, stays);
    }

    int lose(int i) {
        move(x -> x.lose(i));
        return object.lose(i);
    }

    boolean up(int kind, int which, boolean on) {
        move(x -> x.up(kind, which, on));
        return object.up(kind, which, on);
    }

    int text(int i, int k) {
        count();
        return object.text(i, k);
    }

    int value(int store, int key) {
        count();
        return object.value(store, key);
    }

    int lock(int store, int key) {
        count();
        return object.lock(store, key);
    }

    int state(int transaction, int store) {
        count();
        return object.state(transaction, store);
    }

    int outcome(int leader, int transaction) {
        count();
        return object.outcome(leader, transaction);
    }

    int taken(int acceptor, int transaction, int store, boolean promised) {
        count();
        return object.taken(acceptor, transaction, store, promised);
    }

    int count(int what) {
        count();
        return object.count(what);
    }

    String textOf(int i) {
        Run again = again();
        StringBuilder line = new StringBuilder();
        int code = again.text(i, 0);
        for (int k = 1; k < 100 && code != -1; k++) {
            line.append((char) code);
            code = again.text(i, k);
        }
        return line.toString();
    }

    /** The texts of all messages in the net, in order. */
    List<String> texts() {
        List<String> texts = new ArrayList<>();
        int size = again().count(0);
        for (int i = 0; i < size; i++) {
            texts.add(textOf(i));
        }
        return texts;
    }

    /** All that can be asked, for comparing before and after. */
    String all() {
        StringBuilder line = new StringBuilder(String.join(" ", texts()));
        Run again = again();
        for (int what = 0; what < 7; what++) {
            line.append(' ').append(again.count(what));
        }
        for (int s = 0; s < 3; s++) {
            for (int k = 0; k < 4; k++) {
                line.append(' ').append(again.value(s, k)).append(',').append(again.lock(s, k));
            }
        }
        int transactions = again.count(2);
        for (int t = 0; t < transactions; t++) {
            line.append(allOf(t));
        }
        return line.toString();
    }

    private String allOf(int t) {
        StringBuilder line = new StringBuilder();
        Run again = again();
        int acceptors = again.count(3);
        for (int s = 0; s < 3; s++) {
            line.append(' ').append(again.state(t, s));
            for (int a = 0; a < acceptors; a++) {
                line.append(',').append(again.taken(a, t, s, false));
                line.append(',').append(again.taken(a, t, s, true));
            }
        }
        return line.append(' ').append(again.known(0, t)).append(again.known(1, t)).toString();
    }

    /** What a leader knows, as a letter, - for nothing. */
    String known(int leader, int transaction) {
        try {
            return outcome(leader, transaction) == 0 ? "Y" : "N";
        } catch (IllegalStateException e) {
            return "-";
        }
    }

    /** A new object that has seen the same, the calls that threw too. */
    private Run again() {
        Run other = new Run(f);
        for (Move move : moves) {
            try {
                other.count();
                move.on(other.object);
            } catch (RuntimeException e) {
                continue;
            }
        }
        return other;
    }

    private void move(Move move) {
        count();
        moves.add(move);
    }

    private void count() {
        calls++;
        if (calls > MOST_CALLS) {
            throw new AssertionError("a test makes more than 512 calls on one object");
        }
    }
}
