import java.util.Random;

/** All promises: long random runs, each call answered by the program and by PlainModel. */
public final class RandomRunsTest {
    private static final int RUNS = 4000;
    private static final int CALLS = 512;

    /** How often each kind of call was answered without and with an exception. */
    private final int[] answered = new int[15];
    private final int[] thrown = new int[15];
    private int commits = 0;
    private int aborts = 0;
    private int overflows = 0;

    private Random random;
    private PaxosCommit program;
    private PlainModel model;
    private int faults;
    private int transactions;
    /** In a crowded run messages are doubled until the net is full. */
    private boolean crowded;
    private int index;
    private StringBuilder story;

    private interface Call {
        String answer();
    }

    public static void main(String[] args) {
        RandomRunsTest test = new RandomRunsTest();
        for (int run = 0; run < RUNS; run++) {
            test.play(run);
        }
        test.checkThatMuchHappened();
        Checks.end();
    }

    private void play(int run) {
        random = new Random(run);
        int f = random.nextInt(3) == 0 ? 0 : random.nextInt(5) - 2;
        program = new PaxosCommit(f);
        model = new PlainModel(f);
        faults = random.nextInt(5) == 0 ? 0 : random.nextInt(25);
        transactions = 1 + random.nextInt(8);
        crowded = random.nextInt(3) == 0;
        story = new StringBuilder("new(" + f + ")");
        for (int i = 0; i < CALLS; i++) {
            int kind = pickKind();
            if (!step(kind)) {
                Checks.due("run " + run + " " + story, "the last call", "another answer");
                return;
            }
        }
        Checks.due("run " + run, 0, 0);
        tally();
    }

    /** By the model, since the program's object has had all of its calls. */
    private void tally() {
        for (int t = 0; t < model.count(2); t++) {
            int transaction = t;
            String known = answerOf(() -> "" + model.outcome(0, transaction));
            commits += known.equals("0") ? 1 : 0;
            aborts += known.equals("1") ? 1 : 0;
        }
        overflows += model.count(1) > 0 ? 1 : 0;
    }

    /** Mostly what moves messages, so that runs get far; faults as often as the run has them. */
    private int pickKind() {
        int r = random.nextInt(100);
        if (r < faults) {
            return new int[] {3, 3, 4, 4, 4, 6, 7, 7, 7, 7}[random.nextInt(10)];
        }
        if (r < 30) {
            return 8 + random.nextInt(7);
        }
        if (r < 45) {
            return new int[] {0, 0, 1, 1, 1, 1, 2, 2}[random.nextInt(8)];
        }
        return model.count(0) == 0 ? random.nextInt(3) : 5;
    }

    /** A number from 0 to bound - 1, now and then just outside. */
    private int near(int bound) {
        int r = random.nextInt(60);
        return r == 0 ? -1 : r == 1 ? bound : random.nextInt(bound);
    }

    private int transaction() {
        return random.nextInt(30) == 0 ? near(8) : random.nextInt(transactions);
    }

    private int message() {
        int size = model.count(0);
        if (size > 50 && !crowded && random.nextBoolean()) {
            return size - 1;
        }
        return size == 0 || random.nextInt(100) == 0 ? near(60) : random.nextInt(size);
    }

    private boolean step(int kind) {
        int t = transaction();
        int s = near(3);
        int k = near(4);
        int l = near(2);
        int a = near(model.count(3));
        int i = message();
        boolean yes = random.nextInt(4) == 0;
        index = kind;
        switch (kind) {
            case 0:
                if (model.count(2) >= transactions && random.nextInt(50) != 0) {
                    return true;
                }
                return same("begin()", () -> "" + program.begin(), () -> "" + model.begin());
            case 1:
                int v = random.nextInt();
                return same("write(" + t + "," + s + "," + k + "," + v + ")",
                    () -> "" + program.write(t, s, k, v), () -> "" + model.write(t, s, k, v));
            case 2:
                return same("request(" + t + ")",
                    () -> "" + program.request(t), () -> "" + model.request(t));
            case 3:
                return same("refuse(" + t + "," + s + ")",
                    () -> "" + program.refuse(t, s), () -> "" + model.refuse(t, s));
            case 4:
                return same("take(" + l + "," + t + ")",
                    () -> "" + program.take(l, t), () -> "" + model.take(l, t));
            case 5:
                boolean stays = crowded ? random.nextInt(10) > 0 : yes && model.count(0) < 45;
                return same("deliver(" + i + "," + stays + ")",
                    () -> "" + program.deliver(i, stays), () -> "" + model.deliver(i, stays));
            case 6:
                return same("lose(" + i + ")",
                    () -> "" + program.lose(i), () -> "" + model.lose(i));
            case 7:
                int which = random.nextInt(3);
                int member = which == 0 ? s : which == 1 ? a : l;
                return same("up(" + which + "," + member + "," + !yes + ")",
                    () -> "" + program.up(which, member, !yes),
                    () -> "" + model.up(which, member, !yes));
            default:
                return look(kind, t, s, k, l, a, i);
        }
    }

    private boolean look(int kind, int t, int s, int k, int l, int a, int i) {
        boolean promised = random.nextBoolean();
        int c = random.nextInt(20) - (random.nextInt(40) == 0 ? 20 : 0);
        int what = near(7);
        switch (kind) {
            case 8:
                return same("text(" + i + "," + c + ")",
                    () -> "" + program.text(i, c), () -> "" + model.text(i, c));
            case 9:
                return same("value(" + s + "," + k + ")",
                    () -> "" + program.value(s, k), () -> "" + model.value(s, k));
            case 10:
                return same("lock(" + s + "," + k + ")",
                    () -> "" + program.lock(s, k), () -> "" + model.lock(s, k));
            case 11:
                return same("state(" + t + "," + s + ")",
                    () -> "" + program.state(t, s), () -> "" + model.state(t, s));
            case 12:
                return same("outcome(" + l + "," + t + ")",
                    () -> "" + program.outcome(l, t), () -> "" + model.outcome(l, t));
            case 13:
                return same("taken(" + a + "," + t + "," + s + "," + promised + ")",
                    () -> "" + program.taken(a, t, s, promised),
                    () -> "" + model.taken(a, t, s, promised));
            default:
                return same("count(" + what + ")",
                    () -> "" + program.count(what), () -> "" + model.count(what));
        }
    }

    private boolean same(String call, Call ofProgram, Call ofModel) {
        String got = answerOf(ofProgram);
        String want = answerOf(ofModel);
        story.append(' ').append(call).append('=').append(got);
        if (!got.equals(want)) {
            story.append(", due is ").append(want);
        }
        if (want.startsWith("java.")) {
            thrown[index]++;
        } else {
            answered[index]++;
        }
        return got.equals(want);
    }

    private static String answerOf(Call call) {
        try {
            return call.answer();
        } catch (RuntimeException e) {
            return e.getClass().getName();
        }
    }

    /** Runs in which little happens would tell little. */
    private void checkThatMuchHappened() {
        for (int kind = 0; kind < answered.length; kind++) {
            Checks.due("calls of kind " + kind + " answered often", answered[kind] > 1000, true);
            Checks.due("calls of kind " + kind + " throw, too", thrown[kind] > 50, true);
        }
        Checks.due("commits were many", commits > 1000, true);
        Checks.due("aborts were many", aborts > 1000, true);
        Checks.due("the net was full often", overflows > 500, true);
    }
}
