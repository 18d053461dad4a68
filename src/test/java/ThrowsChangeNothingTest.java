import java.util.Random;

/**
 * Terms: a call that throws changes nothing. Random runs are made twice, with and without the calls
 * that throw, and must answer the same, so that what cannot be asked for is looked at, too.
 */
public final class ThrowsChangeNothingTest {
    private static final int RUNS = 600;
    private static final int CALLS = 440;

    private interface Call {
        String on(Run x);
    }

    private final Random random;
    private final int transactions;
    private int thrown = 0;

    private ThrowsChangeNothingTest(int seed) {
        random = new Random(seed);
        transactions = 1 + random.nextInt(8);
    }

    public static void main(String[] args) {
        Checks.about("A call that throws changes nothing");
        int thrown = 0;
        for (int seed = 0; seed < RUNS; seed++) {
            ThrowsChangeNothingTest test = new ThrowsChangeNothingTest(seed);
            test.play(seed);
            thrown += test.thrown;
        }
        Checks.due("many calls throw", thrown > 50 * RUNS, true);
        Checks.end();
    }

    private void play(int seed) {
        int f = random.nextInt(2);
        Run all = new Run(f);
        Run rest = new Run(f);
        int size = 0;
        for (int i = 0; i < CALLS; i++) {
            Call call = pick(size);
            String answer = answerOf(call, all);
            if (answer.startsWith("java.")) {
                thrown++;
            } else {
                String want = answerOf(call, rest);
                if (!answer.equals(want)) {
                    Checks.due("run " + seed + ", call " + i, answer, want);
                    return;
                }
                size = sizeAfter(rest, size, i);
            }
        }
        Checks.due("run " + seed, all.all(), rest.all());
    }

    /** Asked for now and then alone, as an object has but 512 calls. */
    private static int sizeAfter(Run x, int size, int i) {
        return i % 8 == 0 ? x.count(0) : size;
    }

    private static String answerOf(Call call, Run x) {
        try {
            return call.on(x);
        } catch (RuntimeException e) {
            return e.getClass().getName();
        }
    }

    /** A number from 0 to bound - 1, often enough outside. */
    private int near(int bound) {
        return random.nextInt(12) == 0 ? random.nextInt(3) * (bound + 1) - 1
            : random.nextInt(bound);
    }

    private Call pick(int size) {
        int t = random.nextInt(6) == 0 ? near(8) : random.nextInt(transactions);
        int s = near(3);
        int k = near(4);
        int l = near(2);
        int i = near(size + 2);
        int c = near(14);
        boolean yes = random.nextInt(4) != 0;
        boolean stays = !yes && size < 50;
        int kind = near(3);
        switch (random.nextInt(22)) {
            case 0: return x -> "" + x.begin();
            case 1:
            case 2:
            case 3: return x -> "" + x.write(t, s, k, i + 10 * c);
            case 4:
            case 5: return x -> "" + x.request(t);
            case 6: return x -> "" + x.refuse(t, s);
            case 7: return x -> "" + x.take(l, t);
            case 8: return x -> "" + x.lose(i);
            case 9: return x -> "" + x.up(kind, s, yes);
            case 10: return x -> "" + x.text(i, c);
            case 11: return x -> "" + x.outcome(l, t);
            case 12: return x -> "" + x.taken(s, t, k, yes);
            default: return x -> "" + x.deliver(i, stays);
        }
    }
}
