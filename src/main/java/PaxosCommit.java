import java.util.Arrays;
import java.util.NoSuchElementException;

/**
 * Transactions over several stores that commit or abort together: each store's vote is decided by
 * acceptors, and leaders learn what was decided and can take over from one another.
 */
public final class PaxosCommit {
    private static final int STORES = 3;
    private static final int KEYS = 4;
    private static final int LEADERS = 2;
    private static final int TRANSACTIONS = 8;
    private static final int NET_ROOM = 60;

    private static final int NONE = 0;
    private static final int WORKING = 1;
    private static final int PREPARED = 2;
    private static final int COMMITTED = 3;
    private static final int ABORTED = 4;

    /** Stands for whatever is not there: a lock, a vote, an outcome, a part of a message. */
    private static final int NOTHING = -1;
    /** A vote, and an outcome too: NO is ABORT, YES is COMMIT. */
    private static final int NO = 0;
    private static final int YES = 1;

    private static final int PREPARE = 0;
    private static final int ASK = 1;
    private static final int REPLY = 2;
    private static final int VOTE = 3;
    private static final int TOLD = 4;
    private static final int OUTCOME = 5;
    private static final String LETTERS = "PARVTO";

    private static final int STORE = 0;
    private static final int ACCEPTOR = 1;
    private static final int LEADER = 2;

    private final Store[] stores = new Store[STORES];
    private final Acceptor[] acceptors;
    /** What each leader has of each transaction, leader by leader. */
    private final Ledger[] ledgers = new Ledger[LEADERS * TRANSACTIONS];
    private final int majority;
    /** For each kind, STORE, ACCEPTOR and LEADER, the set of those that are up. */
    private final int[] upSets = new int[3];
    private final Net net = new Net();
    /** For each transaction the set of its members; a set has number i as bit i. */
    private final int[] members = new int[TRANSACTIONS];
    private final boolean[] closed = new boolean[TRANSACTIONS];
    private int begun = 0;

    public PaxosCommit(int f) {
        int n = f == 0 ? 1 : 3;
        majority = f == 0 ? 1 : 2;
        acceptors = new Acceptor[n];
        for (int s = 0; s < STORES; s++) {
            stores[s] = new Store();
        }
        for (int a = 0; a < n; a++) {
            acceptors[a] = new Acceptor();
        }
        for (int i = 0; i < LEADERS * TRANSACTIONS; i++) {
            ledgers[i] = new Ledger(n);
        }
        upSets[STORE] = (1 << STORES) - 1;
        upSets[ACCEPTOR] = (1 << n) - 1;
        upSets[LEADER] = (1 << LEADERS) - 1;
    }

    public int begin() throws IllegalStateException {
        if (begun >= TRANSACTIONS) {
            throw new IllegalStateException("all transactions are begun");
        }
        begun++;
        return begun - 1;
    }

    public int write(int transaction, int store, int key, int value)
            throws IllegalArgumentException, NoSuchElementException, IllegalStateException,
            UnsupportedOperationException {
        checkRange(transaction, TRANSACTIONS);
        checkRange(store, STORES);
        checkRange(key, KEYS);
        checkBegun(transaction);
        checkUp(STORE, store);
        Store s = stores[store];
        if (s.isLockedByAnother(transaction, key)) {
            throw new IllegalStateException("another transaction has the lock");
        }
        if (closed[transaction] || !s.isOpenFor(transaction)) {
            throw new UnsupportedOperationException("the transaction writes no more here");
        }
        s.keep(transaction, key, value);
        members[transaction] = with(members[transaction], store);
        return s.keysWritten(transaction);
    }

    public int request(int transaction)
            throws IllegalArgumentException, NoSuchElementException, IllegalStateException,
            UnsupportedOperationException {
        checkRange(transaction, TRANSACTIONS);
        checkBegun(transaction);
        if (members[transaction] == 0) {
            throw new IllegalStateException("the transaction has no members");
        }
        if (closed[transaction]) {
            throw new UnsupportedOperationException("the transaction is closed");
        }
        closed[transaction] = true;
        for (int s = 0; s < STORES; s++) {
            if (has(members[transaction], s)) {
                sendToStore(PREPARE, transaction, s, NOTHING);
            }
        }
        return Integer.bitCount(members[transaction]);
    }

    public int refuse(int transaction, int store)
            throws IllegalArgumentException, NoSuchElementException, IllegalStateException,
            UnsupportedOperationException {
        checkRange(transaction, TRANSACTIONS);
        checkRange(store, STORES);
        checkBegun(transaction);
        checkUp(STORE, store);
        Store s = stores[store];
        if (s.states[transaction] != WORKING) {
            throw new UnsupportedOperationException("the store is not working");
        }
        s.abort(transaction);
        sendVotes(transaction, store, 0, NO);
        return s.keysWritten(transaction);
    }

    public int take(int leader, int transaction)
            throws IllegalArgumentException, NoSuchElementException, IllegalStateException,
            UnsupportedOperationException {
        checkRange(leader, LEADERS);
        checkRange(transaction, TRANSACTIONS);
        checkBegun(transaction);
        checkUp(LEADER, leader);
        if (!closed[transaction]) {
            throw new UnsupportedOperationException("the transaction is not closed");
        }
        int ballot = ledger(leader, transaction).raiseBallot(leader);
        sendAsks(transaction, ballot);
        return ballot;
    }

    public int deliver(int i, boolean stays) throws IndexOutOfBoundsException {
        checkMessage(i);
        Message m = net.pick(i);
        if (!stays) {
            net.remove(i);
        }
        arrive(m);
        return net.size;
    }

    public int lose(int i) throws IndexOutOfBoundsException {
        checkMessage(i);
        net.remove(i);
        return net.size;
    }

    public boolean up(int kind, int which, boolean on) throws IllegalArgumentException {
        checkRange(kind, upSets.length);
        checkRange(which, howMany(kind));
        boolean was = has(upSets[kind], which);
        if (on) {
            upSets[kind] = with(upSets[kind], which);
        } else {
            upSets[kind] = without(upSets[kind], which);
            stop(kind, which);
        }
        return was;
    }

    public int text(int i, int k) throws IllegalArgumentException, IndexOutOfBoundsException {
        if (k < 0) {
            throw new IllegalArgumentException("no character below 0");
        }
        checkMessage(i);
        StringBuilder line = new StringBuilder();
        net.row[i].spell(line);
        if (k >= line.length()) {
            return -1;
        }
        return line.charAt(k);
    }

    public int value(int store, int key) throws IllegalArgumentException {
        checkRange(store, STORES);
        checkRange(key, KEYS);
        return stores[store].values[key];
    }

    public int lock(int store, int key) throws IllegalArgumentException {
        checkRange(store, STORES);
        checkRange(key, KEYS);
        return stores[store].locks[key];
    }

    public int state(int transaction, int store)
            throws IllegalArgumentException, NoSuchElementException {
        checkRange(transaction, TRANSACTIONS);
        checkRange(store, STORES);
        checkBegun(transaction);
        return stores[store].states[transaction];
    }

    public int outcome(int leader, int transaction)
            throws IllegalArgumentException, NoSuchElementException, IllegalStateException {
        checkRange(leader, LEADERS);
        checkRange(transaction, TRANSACTIONS);
        checkBegun(transaction);
        int known = ledger(leader, transaction).known;
        if (known == NOTHING) {
            throw new IllegalStateException("the leader knows no outcome");
        }
        return known == YES ? 0 : 1;
    }

    public int taken(int acceptor, int transaction, int store, boolean promised)
            throws IllegalArgumentException, NoSuchElementException {
        checkRange(acceptor, acceptors.length);
        checkRange(transaction, TRANSACTIONS);
        checkRange(store, STORES);
        checkBegun(transaction);
        Acceptor a = acceptors[acceptor];
        return promised ? a.promises[transaction][store] : a.accepted[transaction][store];
    }

    public int count(int what) throws IllegalArgumentException {
        checkRange(what, 7);
        switch (what) {
            case 0:
                return net.size;
            case 1:
                return net.overflowed;
            case 2:
                return begun;
            case 3:
                return acceptors.length;
            case 4:
                return upSets[STORE];
            case 5:
                return upSets[ACCEPTOR];
            default:
                return upSets[LEADER];
        }
    }

    private static void checkRange(int number, int bound) {
        if (number < 0 || number >= bound) {
            throw new IllegalArgumentException("a number out of range");
        }
    }

    private void checkBegun(int transaction) {
        if (transaction >= begun) {
            throw new NoSuchElementException("there is no such transaction");
        }
    }

    private void checkUp(int kind, int which) {
        if (!has(upSets[kind], which)) {
            throw new IllegalStateException("it is not up");
        }
    }

    private void checkMessage(int i) {
        if (i < 0 || i >= net.size) {
            throw new IndexOutOfBoundsException("there is no such message");
        }
    }

    private static boolean has(int set, int number) {
        return (set >> number & 1) == 1;
    }

    private static int with(int set, int number) {
        return set | 1 << number;
    }

    private static int without(int set, int number) {
        return set & ~(1 << number);
    }

    private int howMany(int kind) {
        if (kind == STORE) {
            return STORES;
        }
        return kind == ACCEPTOR ? acceptors.length : LEADERS;
    }

    private Ledger ledger(int leader, int transaction) {
        return ledgers[leader * TRANSACTIONS + transaction];
    }

    private void stop(int kind, int which) {
        if (kind == STORE) {
            stores[which].abortWork();
        } else if (kind == LEADER) {
            for (int t = 0; t < TRANSACTIONS; t++) {
                ledger(which, t).forget();
            }
        }
    }

    private void arrive(Message m) {
        if (!has(upSets[m.receiverKind()], m.receiver())) {
            return;
        }
        switch (m.kind) {
            case PREPARE:
                arrivePrepare(m);
                break;
            case ASK:
                arriveAsk(m);
                break;
            case REPLY:
                arriveReply(m);
                break;
            case VOTE:
                arriveVote(m);
                break;
            case TOLD:
                arriveTold(m);
                break;
            default:
                arriveOutcome(m);
                break;
        }
    }

    private void arrivePrepare(Message m) {
        Store s = stores[m.store];
        int t = m.transaction;
        if (s.states[t] == WORKING) {
            s.states[t] = PREPARED;
            sendVotes(t, m.store, 0, YES);
        } else if (s.states[t] == NONE || s.states[t] == ABORTED) {
            s.abort(t);
            sendVotes(t, m.store, 0, NO);
        }
    }

    private void arriveAsk(Message m) {
        Acceptor a = acceptors[m.acceptor];
        int memberSet = members[m.transaction];
        if (a.hasPromisedAbove(m.transaction, memberSet, m.ballot)) {
            return;
        }
        a.promise(m.transaction, memberSet, m.ballot);
        sendReply(m.acceptor, m.transaction, m.ballot);
    }

    private void arriveReply(Message m) {
        Ledger ledger = ledger(m.leader, m.transaction);
        if (m.ballot != ledger.ballot || ledger.proposed) {
            return;
        }
        ledger.keepReply(m.acceptor, m.replied);
        if (ledger.countReplies() < majority) {
            return;
        }
        ledger.proposed = true;
        for (int s = 0; s < STORES; s++) {
            if (has(members[m.transaction], s)) {
                sendVotes(m.transaction, s, m.ballot, ledger.voteToPropose(s));
            }
        }
    }

    private void arriveVote(Message m) {
        Acceptor a = acceptors[m.acceptor];
        if (a.promises[m.transaction][m.store] > m.ballot) {
            return;
        }
        a.accept(m.transaction, m.store, m.ballot, m.vote);
        for (int l = 0; l < LEADERS; l++) {
            sendTold(m, l);
        }
    }

    private void arriveTold(Message m) {
        Ledger ledger = ledger(m.leader, m.transaction);
        ledger.hear(m.acceptor, m.store, m.ballot, m.vote);
        if (ledger.known != NOTHING) {
            return;
        }
        ledger.known = ledger.judge(members[m.transaction], majority);
        if (ledger.known != NOTHING) {
            sendOutcomes(m.transaction, ledger.known);
        }
    }

    private void arriveOutcome(Message m) {
        Store s = stores[m.store];
        int t = m.transaction;
        boolean prepared = s.states[t] == PREPARED;
        if (prepared && m.vote == YES) {
            s.commit(t);
        } else if (m.vote == NO && (prepared || s.isOpenFor(t))) {
            s.abort(t);
        }
    }

    private void sendOutcomes(int transaction, int outcome) {
        for (int s = 0; s < STORES; s++) {
            if (has(members[transaction], s)) {
                sendToStore(OUTCOME, transaction, s, outcome);
            }
        }
    }

    private void sendToStore(int kind, int transaction, int store, int vote) {
        Message m = net.compose(kind, transaction);
        m.store = store;
        m.vote = vote;
        net.send(m);
    }

    private void sendVotes(int transaction, int store, int ballot, int vote) {
        for (int a = 0; a < acceptors.length; a++) {
            Message m = net.compose(VOTE, transaction);
            m.store = store;
            m.acceptor = a;
            m.ballot = ballot;
            m.vote = vote;
            net.send(m);
        }
    }

    private void sendAsks(int transaction, int ballot) {
        for (int a = 0; a < acceptors.length; a++) {
            Message m = net.compose(ASK, transaction);
            m.acceptor = a;
            m.ballot = ballot;
            net.send(m);
        }
    }

    private void sendReply(int acceptor, int transaction, int ballot) {
        Message m = net.compose(REPLY, transaction);
        m.acceptor = acceptor;
        m.leader = Math.floorMod(ballot, LEADERS);
        m.ballot = ballot;
        for (int s = 0; s < STORES; s++) {
            if (has(members[transaction], s)) {
                m.replied[s] = acceptors[acceptor].accepted[transaction][s];
            }
        }
        net.send(m);
    }

    private void sendTold(Message vote, int leader) {
        Message m = net.compose(TOLD, vote.transaction);
        m.store = vote.store;
        m.acceptor = vote.acceptor;
        m.leader = leader;
        m.ballot = vote.ballot;
        m.vote = vote.vote;
        net.send(m);
    }

    /** A ballot and its vote as one number, in the form in which taken answers them. */
    private static int pack(int ballot, int vote) {
        return 2 * ballot + vote;
    }

    /** The ballot of a packed number; NOTHING lies below every ballot. */
    private static int ballotOf(int packed) {
        return packed == NOTHING ? NOTHING : packed / 2;
    }

    private static int voteOf(int packed) {
        return packed % 2 == 0 ? NO : YES;
    }

    private static final class Store {
        private final int[] values = new int[KEYS];
        private final int[] locks = new int[KEYS];
        private final int[] states = new int[TRANSACTIONS];
        /** For each transaction the set of the keys that it writes. */
        private final int[] written = new int[TRANSACTIONS];
        private final int[][] writes = new int[TRANSACTIONS][KEYS];

        Store() {
            Arrays.fill(locks, NOTHING);
        }

        boolean isLockedByAnother(int transaction, int key) {
            return locks[key] != NOTHING && locks[key] != transaction;
        }

        boolean isOpenFor(int transaction) {
            return states[transaction] == NONE || states[transaction] == WORKING;
        }

        void keep(int transaction, int key, int value) {
            states[transaction] = WORKING;
            locks[key] = transaction;
            written[transaction] = with(written[transaction], key);
            writes[transaction][key] = value;
        }

        int keysWritten(int transaction) {
            return Integer.bitCount(written[transaction]);
        }

        void commit(int transaction) {
            for (int k = 0; k < KEYS; k++) {
                if (has(written[transaction], k)) {
                    values[k] = writes[transaction][k];
                }
            }
            states[transaction] = COMMITTED;
            unlock(transaction);
        }

        void abort(int transaction) {
            states[transaction] = ABORTED;
            unlock(transaction);
        }

        void abortWork() {
            for (int t = 0; t < TRANSACTIONS; t++) {
                if (states[t] == WORKING) {
                    abort(t);
                }
            }
        }

        void unlock(int transaction) {
            for (int k = 0; k < KEYS; k++) {
                if (locks[k] == transaction) {
                    locks[k] = NOTHING;
                }
            }
        }
    }

    private static final class Acceptor {
        private final int[][] promises = new int[TRANSACTIONS][STORES];
        /** For each transaction and store the packed ballot and vote, or NOTHING. */
        private final int[][] accepted = new int[TRANSACTIONS][STORES];

        Acceptor() {
            for (int t = 0; t < TRANSACTIONS; t++) {
                Arrays.fill(accepted[t], NOTHING);
            }
        }

        boolean hasPromisedAbove(int transaction, int memberSet, int ballot) {
            boolean above = false;
            for (int s = 0; s < STORES; s++) {
                if (has(memberSet, s) && promises[transaction][s] > ballot) {
                    above = true;
                }
            }
            return above;
        }

        void promise(int transaction, int memberSet, int ballot) {
            for (int s = 0; s < STORES; s++) {
                if (has(memberSet, s)) {
                    promises[transaction][s] = ballot;
                }
            }
        }

        void accept(int transaction, int store, int ballot, int vote) {
            promises[transaction][store] = ballot;
            accepted[transaction][store] = pack(ballot, vote);
        }
    }

    /** What a leader has of one transaction. */
    private static final class Ledger {
        private int ballot = 0;
        private boolean proposed = false;
        private int known = NOTHING;
        /** For each acceptor whether there is a reply of it to the ballot. */
        private final boolean[] hasReply;
        /** For each acceptor, and in it each store, what the reply says was taken, packed. */
        private final int[][] replies;
        /** Likewise the latest that the leader was told was taken. */
        private final int[][] latest;

        Ledger(int acceptorCount) {
            hasReply = new boolean[acceptorCount];
            replies = new int[acceptorCount][STORES];
            latest = new int[acceptorCount][STORES];
            for (int a = 0; a < acceptorCount; a++) {
                Arrays.fill(latest[a], NOTHING);
            }
        }

        int raiseBallot(int leader) {
            ballot++;
            if (Math.floorMod(ballot, LEADERS) != leader) {
                ballot++;
            }
            proposed = false;
            dropReplies();
            return ballot;
        }

        /** The ballot stays, as proposed, so that no two votes are ever proposed in it. */
        void forget() {
            proposed = true;
            known = NOTHING;
            dropReplies();
            for (int a = 0; a < latest.length; a++) {
                Arrays.fill(latest[a], NOTHING);
            }
        }

        void dropReplies() {
            for (int a = 0; a < hasReply.length; a++) {
                hasReply[a] = false;
            }
        }

        void keepReply(int acceptor, int[] replied) {
            hasReply[acceptor] = true;
            for (int s = 0; s < STORES; s++) {
                replies[acceptor][s] = replied[s];
            }
        }

        int countReplies() {
            int sum = 0;
            for (int a = 0; a < hasReply.length; a++) {
                sum += hasReply[a] ? 1 : 0;
            }
            return sum;
        }

        int voteToPropose(int store) {
            int best = NOTHING;
            for (int a = 0; a < hasReply.length; a++) {
                if (hasReply[a] && ballotOf(replies[a][store]) > ballotOf(best)) {
                    best = replies[a][store];
                }
            }
            return best == NOTHING ? NO : voteOf(best);
        }

        void hear(int acceptor, int store, int toldBallot, int vote) {
            if (ballotOf(latest[acceptor][store]) < toldBallot) {
                latest[acceptor][store] = pack(toldBallot, vote);
            }
        }

        /** The outcome, as far as the votes that are decided tell it, else NOTHING. */
        int judge(int memberSet, int majority) {
            int outcome = YES;
            for (int s = 0; s < STORES; s++) {
                if (has(memberSet, s)) {
                    int vote = decidedVote(s, majority);
                    if (vote == NO) {
                        return NO;
                    }
                    if (vote == NOTHING) {
                        outcome = NOTHING;
                    }
                }
            }
            return outcome;
        }

        int decidedVote(int store, int majority) {
            for (int a = 0; a < latest.length; a++) {
                int candidate = latest[a][store];
                int same = 0;
                for (int b = 0; b < latest.length; b++) {
                    same += latest[b][store] == candidate ? 1 : 0;
                }
                if (candidate != NOTHING && same >= majority) {
                    return voteOf(candidate);
                }
            }
            return NOTHING;
        }
    }

    private static final class Message {
        private int kind = PREPARE;
        private int transaction = 0;
        private int store = NOTHING;
        private int acceptor = NOTHING;
        private int leader = NOTHING;
        private int ballot = NOTHING;
        private int vote = NOTHING;
        /** Of a REPLY: for each store the packed ballot and vote that were taken, or NOTHING. */
        private final int[] replied = new int[STORES];

        void clear(int newKind, int newTransaction) {
            kind = newKind;
            transaction = newTransaction;
            store = NOTHING;
            acceptor = NOTHING;
            leader = NOTHING;
            ballot = NOTHING;
            vote = NOTHING;
            Arrays.fill(replied, NOTHING);
        }

        void copyFrom(Message other) {
            kind = other.kind;
            transaction = other.transaction;
            store = other.store;
            acceptor = other.acceptor;
            leader = other.leader;
            ballot = other.ballot;
            vote = other.vote;
            System.arraycopy(other.replied, 0, replied, 0, STORES);
        }

        int receiverKind() {
            if (kind == PREPARE || kind == OUTCOME) {
                return STORE;
            }
            return kind == ASK || kind == VOTE ? ACCEPTOR : LEADER;
        }

        int receiver() {
            switch (receiverKind()) {
                case STORE:
                    return store;
                case ACCEPTOR:
                    return acceptor;
                default:
                    return leader;
            }
        }

        void spell(StringBuilder line) {
            line.append(LETTERS.charAt(kind));
            spellPart(line, 't', transaction);
            spellPart(line, 's', store);
            spellPart(line, 'a', acceptor);
            spellPart(line, 'l', leader);
            spellPart(line, 'b', ballot);
            if (vote != NOTHING) {
                line.append(vote == YES ? 'Y' : 'N');
            }
            if (kind == REPLY) {
                for (int s = 0; s < STORES; s++) {
                    spellReplied(line, replied[s]);
                }
            }
        }

        static void spellPart(StringBuilder line, char letter, int number) {
            if (number != NOTHING) {
                line.append(letter);
                line.append(number);
            }
        }

        static void spellReplied(StringBuilder line, int packed) {
            if (packed == NOTHING) {
                line.append('-');
            } else {
                line.append(ballotOf(packed));
                line.append(voteOf(packed) == YES ? 'Y' : 'N');
            }
        }
    }

    private static final class Net {
        /** Its first messages, as many as size says, are in the net; the others wait for use. */
        private final Message[] row = new Message[NET_ROOM];
        private int size = 0;
        private int overflowed = 0;
        /** The message that is being written, and the one that arrives. */
        private final Message draft = new Message();
        private final Message hand = new Message();

        Net() {
            for (int i = 0; i < NET_ROOM; i++) {
                row[i] = new Message();
            }
        }

        Message compose(int kind, int transaction) {
            draft.clear(kind, transaction);
            return draft;
        }

        void send(Message m) {
            if (size >= NET_ROOM) {
                overflowed++;
                return;
            }
            row[size].copyFrom(m);
            size++;
        }

        /** A copy, since what is sent while the message arrives may use its place in the row. */
        Message pick(int i) {
            hand.copyFrom(row[i]);
            return hand;
        }

        void remove(int i) {
            Message gone = row[i];
            for (int j = i; j < size - 1; j++) {
                row[j] = row[j + 1];
            }
            size--;
            row[size] = gone;
        }
    }
}
