import java.util.ArrayList;
import java.util.HashMap;
import java.util.List;
import java.util.Map;
import java.util.NoSuchElementException;
import java.util.TreeMap;
import java.util.TreeSet;
import java.util.regex.Matcher;
import java.util.regex.Pattern;

/**
 * A second reading of the document, written apart from the program: a message is nothing but its
 * text, and all that is known stands in maps under names such as "taken a0 t1 s2".
 */
final class PlainModel {
    private static final Pattern PARTS = Pattern.compile(
        "([PARVTO])t(\\d+)(?:s(\\d+))?(?:a(\\d+))?(?:l(\\d+))?(?:b(\\d+))?([YN])?");

    private final int n;
    private final int m;
    private final List<String> net = new ArrayList<>();
    private final List<TreeSet<Integer>> members = new ArrayList<>();
    private final TreeSet<Integer> closed = new TreeSet<>();
    private final TreeSet<String> down = new TreeSet<>();
    private final Map<String, Integer> numbers = new HashMap<>();
    private final Map<String, String> words = new HashMap<>();
    private final Map<String, TreeMap<Integer, Integer>> writes = new HashMap<>();
    /** By leader and transaction: of each acceptor, the words of its reply for each store. */
    private final Map<String, TreeMap<Integer, String[]>> replies = new HashMap<>();
    private int lost = 0;

    PlainModel(int f) {
        n = f == 0 ? 1 : 3;
        m = f == 0 ? 1 : 2;
    }

    int begin() {
        if (members.size() == 8) {
            throw new IllegalStateException();
        }
        members.add(new TreeSet<>());
        return members.size() - 1;
    }

    int write(int t, int s, int k, int value) {
        range(t, 8);
        range(s, 3);
        range(k, 4);
        exists(t);
        int holder = lock(s, k);
        if (down.contains("store" + s) || holder != -1 && holder != t) {
            throw new IllegalStateException();
        }
        if (closed.contains(t) || state(t, s) > 1) {
            throw new UnsupportedOperationException();
        }
        numbers.put("state t" + t + " s" + s, 1);
        members.get(t).add(s);
        numbers.put("lock s" + s + " k" + k, t);
        writesOf(t, s).put(k, value);
        return writesOf(t, s).size();
    }

    int request(int t) {
        range(t, 8);
        exists(t);
        if (members.get(t).isEmpty()) {
            throw new IllegalStateException();
        }
        if (!closed.add(t)) {
            throw new UnsupportedOperationException();
        }
        for (int s : members.get(t)) {
            send("Pt" + t + "s" + s);
        }
        return members.get(t).size();
    }

    int refuse(int t, int s) {
        range(t, 8);
        range(s, 3);
        exists(t);
        if (down.contains("store" + s)) {
            throw new IllegalStateException();
        }
        if (state(t, s) != 1) {
            throw new UnsupportedOperationException();
        }
        endAt(t, s, 4);
        sendVotes(t, s, 0, "N");
        return writesOf(t, s).size();
    }

    int take(int l, int t) {
        range(l, 2);
        range(t, 8);
        exists(t);
        if (down.contains("leader" + l)) {
            throw new IllegalStateException();
        }
        if (!closed.contains(t)) {
            throw new UnsupportedOperationException();
        }
        String mine = " l" + l + " t" + t;
        int b = numbers.getOrDefault("ballot" + mine, 0) + 1;
        while (b % 2 != l) {
            b++;
        }
        numbers.put("ballot" + mine, b);
        words.remove("proposed" + mine);
        replies.remove(mine);
        for (int a = 0; a < n; a++) {
            send("At" + t + "a" + a + "b" + b);
        }
        return b;
    }

    int deliver(int i, boolean stays) {
        message(i);
        String text = stays ? net.get(i) : net.remove(i);
        arrive(text);
        return net.size();
    }

    int lose(int i) {
        message(i);
        net.remove(i);
        return net.size();
    }

    boolean up(int kind, int which, boolean on) {
        range(kind, 3);
        range(which, kind == 0 ? 3 : kind == 1 ? n : 2);
        String name = new String[] {"store", "acceptor", "leader"}[kind] + which;
        boolean was = !down.contains(name);
        if (on) {
            down.remove(name);
            return was;
        }
        down.add(name);
        for (int t = 0; t < members.size(); t++) {
            if (kind == 0 && state(t, which) == 1) {
                endAt(t, which, 4);
            }
            if (kind == 2) {
                String mine = " l" + which + " t" + t;
                words.put("proposed" + mine, "");
                replies.remove(mine);
                words.keySet().removeIf(w -> w.startsWith("latest" + mine + " "));
                words.remove("outcome" + mine);
            }
        }
        return was;
    }

    int text(int i, int k) {
        if (k < 0) {
            throw new IllegalArgumentException();
        }
        message(i);
        return k < net.get(i).length() ? net.get(i).charAt(k) : -1;
    }

    int value(int s, int k) {
        range(s, 3);
        range(k, 4);
        return numbers.getOrDefault("value s" + s + " k" + k, 0);
    }

    int lock(int s, int k) {
        range(s, 3);
        range(k, 4);
        return numbers.getOrDefault("lock s" + s + " k" + k, -1);
    }

    int state(int t, int s) {
        range(t, 8);
        range(s, 3);
        exists(t);
        return numbers.getOrDefault("state t" + t + " s" + s, 0);
    }

    int outcome(int l, int t) {
        range(l, 2);
        range(t, 8);
        exists(t);
        String known = words.get("outcome l" + l + " t" + t);
        if (known == null) {
            throw new IllegalStateException();
        }
        return known.equals("Y") ? 0 : 1;
    }

    int taken(int a, int t, int s, boolean promised) {
        range(a, n);
        range(t, 8);
        range(s, 3);
        exists(t);
        String there = " a" + a + " t" + t + " s" + s;
        if (promised) {
            return numbers.getOrDefault("promised" + there, 0);
        }
        String had = words.get("taken" + there);
        return had == null ? -1 : 2 * ballotOf(had) + (had.endsWith("Y") ? 1 : 0);
    }

    int count(int what) {
        range(what, 7);
        switch (what) {
            case 0: return net.size();
            case 1: return lost;
            case 2: return members.size();
            case 3: return n;
            case 4: return upSum("store", 3);
            case 5: return upSum("acceptor", n);
            default: return upSum("leader", 2);
        }
    }

    private int upSum(String kind, int size) {
        int sum = 0;
        for (int i = size - 1; i >= 0; i--) {
            sum = 2 * sum + (down.contains(kind + i) ? 0 : 1);
        }
        return sum;
    }

    private static void range(int number, int bound) {
        if (number < 0 || number >= bound) {
            throw new IllegalArgumentException();
        }
    }

    private void exists(int t) {
        if (t >= members.size()) {
            throw new NoSuchElementException();
        }
    }

    private void message(int i) {
        if (i < 0 || i >= net.size()) {
            throw new IndexOutOfBoundsException();
        }
    }

    private TreeMap<Integer, Integer> writesOf(int t, int s) {
        return writes.computeIfAbsent("t" + t + " s" + s, x -> new TreeMap<>());
    }

    /** Ballot and vote stand together as a word such as 12Y. */
    private static int ballotOf(String word) {
        return Integer.parseInt(word.substring(0, word.length() - 1));
    }

    private void send(String text) {
        if (net.size() == 60) {
            lost++;
        } else {
            net.add(text);
        }
    }

    private void sendVotes(int t, int s, int b, String vote) {
        for (int a = 0; a < n; a++) {
            send("Vt" + t + "s" + s + "a" + a + "b" + b + vote);
        }
    }

    private void endAt(int t, int s, int state) {
        numbers.put("state t" + t + " s" + s, state);
        for (int k = 0; k < 4; k++) {
            if (lock(s, k) == t) {
                numbers.remove("lock s" + s + " k" + k);
            }
        }
    }

    private static int part(Matcher parts, int group) {
        return parts.group(group) == null ? -1 : Integer.parseInt(parts.group(group));
    }

    private void arrive(String text) {
        String head = text;
        if (text.startsWith("R")) {
            // what a REPLY ends with could be read as a part of its ballot
            head = text.substring(0, text.indexOf('b'));
        }
        Matcher parts = PARTS.matcher(head);
        if (!parts.matches()) {
            throw new AssertionError(text);
        }
        int t = part(parts, 2);
        int s = part(parts, 3);
        int a = part(parts, 4);
        int l = part(parts, 5);
        int b = part(parts, 6);
        String vote = parts.group(7);
        switch (text.charAt(0)) {
            case 'P': prepare(t, s); break;
            case 'A': ask(t, a, b); break;
            case 'R': reply(t, a, l, text); break;
            case 'V': vote(t, s, a, b, vote); break;
            case 'T': told(t, s, a, l, b + vote); break;
            default: end(t, s, vote); break;
        }
    }

    private void prepare(int t, int s) {
        if (down.contains("store" + s)) {
            return;
        }
        if (state(t, s) == 1) {
            numbers.put("state t" + t + " s" + s, 2);
            sendVotes(t, s, 0, "Y");
            return;
        }
        if (state(t, s) == 0) {
            endAt(t, s, 4);
        }
        if (state(t, s) == 4) {
            sendVotes(t, s, 0, "N");
        }
    }

    /**
     * What the REPLYs tell, by their texts. Equal texts tell the same as long as ballots stay below
     * 100, which the random runs do.
     */
    private final Map<String, String[]> told = new HashMap<>();

    private void ask(int t, int a, int b) {
        if (down.contains("acceptor" + a)) {
            return;
        }
        for (int s : members.get(t)) {
            if (taken(a, t, s, true) > b) {
                return;
            }
        }
        StringBuilder text = new StringBuilder("Rt" + t + "a" + a + "l" + b % 2 + "b" + b);
        String[] what = new String[4];
        what[3] = String.valueOf(b);
        for (int s = 0; s < 3; s++) {
            if (members.get(t).contains(s)) {
                numbers.put("promised a" + a + " t" + t + " s" + s, b);
                what[s] = words.get("taken a" + a + " t" + t + " s" + s);
            }
            text.append(what[s] == null ? "-" : what[s]);
        }
        told.put(text.toString(), what);
        send(text.toString());
    }

    private void reply(int t, int a, int l, String text) {
        String mine = " l" + l + " t" + t;
        String[] what = told.get(text);
        int b = Integer.parseInt(what[3]);
        if (down.contains("leader" + l) || words.containsKey("proposed" + mine)
                || numbers.getOrDefault("ballot" + mine, 0) != b) {
            return;
        }
        TreeMap<Integer, String[]> have = replies.computeIfAbsent(mine, x -> new TreeMap<>());
        have.put(a, what);
        if (have.size() < m) {
            return;
        }
        words.put("proposed" + mine, "");
        for (int s : members.get(t)) {
            String best = null;
            for (String[] one : have.values()) {
                if (one[s] != null && (best == null || ballotOf(one[s]) > ballotOf(best))) {
                    best = one[s];
                }
            }
            sendVotes(t, s, b, best == null || best.endsWith("N") ? "N" : "Y");
        }
    }

    private void vote(int t, int s, int a, int b, String vote) {
        if (down.contains("acceptor" + a) || taken(a, t, s, true) > b) {
            return;
        }
        numbers.put("promised a" + a + " t" + t + " s" + s, b);
        words.put("taken a" + a + " t" + t + " s" + s, b + vote);
        send("Tt" + t + "s" + s + "a" + a + "l0b" + b + vote);
        send("Tt" + t + "s" + s + "a" + a + "l1b" + b + vote);
    }

    private void told(int t, int s, int a, int l, String word) {
        if (down.contains("leader" + l)) {
            return;
        }
        String mine = " l" + l + " t" + t;
        String old = words.get("latest" + mine + " s" + s + " a" + a);
        if (old == null || ballotOf(old) < ballotOf(word)) {
            words.put("latest" + mine + " s" + s + " a" + a, word);
        }
        if (words.containsKey("outcome" + mine)) {
            return;
        }
        int yes = 0;
        boolean no = false;
        for (int member : members.get(t)) {
            String vote = decided(mine, member);
            yes += vote.equals("Y") ? 1 : 0;
            no |= vote.equals("N");
        }
        if (no || yes == members.get(t).size()) {
            words.put("outcome" + mine, no ? "N" : "Y");
            for (int member : members.get(t)) {
                send("Ot" + t + "s" + member + (no ? "N" : "Y"));
            }
        }
    }

    private String decided(String mine, int s) {
        Map<String, Integer> tally = new HashMap<>();
        for (int a = 0; a < n; a++) {
            String word = words.get("latest" + mine + " s" + s + " a" + a);
            if (word != null && tally.merge(word, 1, Integer::sum) >= m) {
                return word.substring(word.length() - 1);
            }
        }
        return "";
    }

    private void end(int t, int s, String vote) {
        if (down.contains("store" + s)) {
            return;
        }
        int state = state(t, s);
        if (state == 2 && vote.equals("Y")) {
            writesOf(t, s).forEach((k, v) -> numbers.put("value s" + s + " k" + k, v));
            endAt(t, s, 3);
        } else if (state <= 2 && vote.equals("N")) {
            endAt(t, s, 4);
        }
    }
}
