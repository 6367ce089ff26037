import java.util.Random;

/**
 * Rule 7 of LANGUAGE.md: no call throws, for any arguments in any state, also after the 512th call, where the
 * document leaves the answers free. An exception ends the test with exit code 1.
 */
public final class WildTest {
    private static final int OBJECTS = 20;
    private static final int CALLS = 20_000;
    private static final long[] ENDS = {
        Long.MIN_VALUE, Long.MIN_VALUE + 1, Integer.MIN_VALUE, Integer.MIN_VALUE + 1, -1, 0, 1, 7, 8, 9, 10, 39, 40, 99,
        100, 200, 201, 299, 300, 301, 2399, 2400, 100_000, 100_001, Integer.MAX_VALUE, 1L << 32, Long.MAX_VALUE};

    private final Random random;
    private final ToldFacts facts = new ToldFacts();

    private WildTest(long seed) {
        random = new Random(seed);
    }

    public static void main(String[] args) {
        for (long seed = 0; seed < OBJECTS; seed++) {
            WildTest test = new WildTest(seed);
            for (int call = 0; call < CALLS; call++) {
                test.call(1 + (int) seed);
            }
            Check.due("no more than eight desks", test.facts.desk(), Check.FULL);
            Check.due("no more than 300 facts", test.facts.tell(7, 0, 0, 0, 0), Check.FULL);
        }
        Check.end("WildTest");
    }

    private long some(int wildOneOf) {
        return random.nextInt(wildOneOf) == 0 ? ENDS[random.nextInt(ENDS.length)] : random.nextInt(8);
    }

    private void call(int wildOneOf) {
        int a = (int) some(wildOneOf);
        int b = (int) some(wildOneOf);
        int c = (int) some(wildOneOf);
        int d = (int) some(wildOneOf);
        long v = some(wildOneOf);
        long w = some(wildOneOf);
        switch (random.nextInt(13)) {
            case 0 -> facts.desk();
            case 1 -> facts.tell(a, b, c, v, w);
            case 2 -> facts.correct(a, b, v);
            case 3 -> facts.join(a, b);
            case 4 -> facts.known(a, b, c, v, w);
            case 5 -> facts.conflict(a, b, c);
            case 6 -> facts.settle(a, b, c, d);
            case 7 -> facts.equal(a, b);
            case 8 -> facts.batch(a);
            case 9 -> facts.endBatch(a);
            case 10 -> facts.play(v, b);
            case 11 -> facts.find(a, b, v, c);
            default -> facts.counts(a);
        }
    }
}
