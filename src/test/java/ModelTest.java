import java.util.Random;
import java.util.TreeMap;

/** Promises 1 to 14: mixed runs of 512 calls, each answer compared with that of PlainFacts. */
public final class ModelTest {
    private static final int RUNS = 1500;
    private static final int CALLS = 512;
    private static final int METHODS = 13;
    private static final int TELL = 1;
    private static final int BATCH = 8;
    private static final int END_BATCH = 9;
    private static final int PLAY = 10;
    private static final long[] WILD = {
        Long.MIN_VALUE, Integer.MIN_VALUE, -101, -100, -11, -10, -9, -8, -2, -1, 0, 1, 7, 8, 9, 10, 39, 40, 99, 100,
        200, 201, 299, 300, 2399, 2400, 99_999, 100_000, 100_001, 200_002, Integer.MAX_VALUE, Long.MAX_VALUE};

    /** How often each method gave which sort of answer in all runs, to see that the runs reach it. */
    private static final TreeMap<String, Integer> SEEN = new TreeMap<>();

    private final Random random;
    private final int[] weights = new int[METHODS];
    private final int things;
    private final int days;
    private final int values;
    private final int wildOneOf;

    private final ToldFacts real = new ToldFacts();
    private final PlainFacts plain = new PlainFacts();
    private final StringBuilder run = new StringBuilder();
    private int newestBatch = 0;

    private ModelTest(long seed) {
        random = new Random(seed);
        for (int method = 0; method < METHODS; method++) {
            weights[method] = 1 + random.nextInt(9);
        }
        weights[TELL] += random.nextInt(20);
        if (random.nextInt(10) == 0) {
            weights[BATCH] += 40;
            weights[END_BATCH] += 40;
        }
        // A long play fills the object: most runs are to come there by other calls, or not at all.
        weights[PLAY] = random.nextInt(4) == 0 ? 2 : 0;
        things = 1 + random.nextInt(3);
        days = 1 + random.nextInt(4);
        values = 1 + random.nextInt(5);
        wildOneOf = random.nextInt(3) == 0 ? 8 : 60;
    }

    public static void main(String[] args) {
        for (long seed = 0; seed < RUNS && Check.wrongSoFar() == 0; seed++) {
            new ModelTest(seed).go(seed);
        }
        if (Check.wrongSoFar() == 0) {
            seeThatRunsReach("desk", "tell", "correct", "settle", "batch");
        }
        Check.end("ModelTest");
    }

    private static void seeThatRunsReach(String... fullMethods) {
        for (String method : fullMethods) {
            Check.due(method + "() was FULL in some run", SEEN.getOrDefault(method + " full", 0) > 0, true);
        }
        String[] all = {"desk", "tell", "correct", "join", "known", "conflict", "settle", "equal", "batch",
            "endBatch", "play", "find", "counts"};
        for (String method : all) {
            Check.due(method + "() was done in some run", SEEN.getOrDefault(method + " done", 0) > 0, true);
        }
    }

    private void go(long seed) {
        for (int call = 0; call < CALLS && Check.wrongSoFar() == 0; call++) {
            step(choose());
            if (Check.wrongSoFar() != 0) {
                System.out.println("in the run of seed " + seed + ":" + run);
            }
        }
    }

    private int choose() {
        int sum = 0;
        for (int weight : weights) {
            sum += weight;
        }
        int left = random.nextInt(sum);
        int method = 0;
        while (left >= weights[method]) {
            left -= weights[method];
            method++;
        }
        return method;
    }

    private long arg(int bound) {
        return random.nextInt(wildOneOf) == 0 ? WILD[random.nextInt(WILD.length)] : random.nextInt(bound);
    }

    private void step(int method) {
        int desk = (int) arg(random.nextInt(3) == 0 ? 8 : 3);
        int other = (int) arg(4);
        int thing = (int) arg(things);
        int kind = (int) arg(2);
        long day = arg(days);
        long v = arg(values);
        int k = (int) arg(random.nextInt(2) == 0 ? 3 : 30);
        switch (method) {
            case 0 -> answer(real.desk(), plain.desk(), "desk");
            case TELL -> answer(real.tell(desk, thing, kind, day, v), plain.tell(desk, thing, kind, day, v),
                    "tell", desk, thing, kind, day, v);
            case 2 -> {
                int fact = (int) arg(80);
                answer(real.correct(desk, fact, v), plain.correct(desk, fact, v), "correct", desk, fact, v);
            }
            case 3 -> answer(real.join(desk, other), plain.join(desk, other), "join", desk, other);
            case 4 -> {
                long on = arg(60);
                answer(real.known(desk, thing, kind, day, on), plain.known(desk, thing, kind, day, on),
                        "known", desk, thing, kind, day, on);
            }
            case 5 -> {
                int what = (int) arg(8);
                answer(real.conflict(desk, k, what), plain.conflict(desk, k, what), "conflict", desk, k, what);
            }
            case 6 -> answer(real.settle(desk, thing, kind, k), plain.settle(desk, thing, kind, k),
                    "settle", desk, thing, kind, k);
            case 7 -> answer(real.equal(desk, other), plain.equal(desk, other), "equal", desk, other);
            case BATCH -> {
                int begun = plain.batch(desk);
                newestBatch = Math.max(newestBatch, begun);
                answer(real.batch(desk), begun, "batch", desk);
            }
            case END_BATCH -> {
                int batch = random.nextInt(4) == 0 ? k : newestBatch - random.nextInt(3);
                answer(real.endBatch(batch), plain.endBatch(batch), "endBatch", batch);
            }
            case PLAY -> {
                long seed = random.nextLong();
                int turns = (int) arg(12);
                answer(real.play(seed, turns), plain.play(seed, turns), "play", seed, turns);
            }
            case 11 -> answer(real.find(desk, kind, v, k), plain.find(desk, kind, v, k), "find", desk, kind, v, k);
            default -> answer(real.counts(desk), plain.counts(desk), "counts", desk);
        }
    }

    private void answer(boolean got, boolean want, String method, long... args) {
        answer(got ? 1 : 0, want ? 1 : 0, method, args);
    }

    private void answer(long got, long want, String method, long... args) {
        StringBuilder call = new StringBuilder(method).append('(');
        for (int i = 0; i < args.length; i++) {
            call.append(i == 0 ? "" : ", ").append(args[i]);
        }
        call.append(')');
        run.append(' ').append(call);
        SEEN.merge(method + (want == Check.FULL ? " full" : want > 0 ? " done" : " other"), 1, Integer::sum);
        Check.due(call.toString(), got, want);
    }
}
