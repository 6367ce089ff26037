/** Promise 13: the facts of a kind with a value that a desk knows, by numbers. */
public final class FindTest {
    public static void main(String[] args) {
        byNumbers();
        ofTheKindAndValue();
        alsoWhatDoesNotStand();
        nothing();
        Check.end("FindTest");
    }

    private static void byNumbers() {
        ToldFacts facts = Check.withDesks(8);
        for (int desk = 7; desk >= 0; desk--) {
            facts.tell(desk, desk, 9, 100 - desk, 5);
            facts.tell(desk, 99 - desk, 9, desk, 5);
        }
        for (int desk = 1; desk < 8; desk++) {
            facts.join(0, desk);
        }
        for (int k = 0; k < 16; k++) {
            Check.due("find number " + k, facts.find(0, 9, 5, k), k);
        }
        Check.due("no more", facts.find(0, 9, 5, 16), Check.NONE);
        Check.due("desk 3 knows two", facts.find(3, 9, 5, 1), 11);
        Check.due("and no more", facts.find(3, 9, 5, 2), Check.NONE);
    }

    private static void ofTheKindAndValue() {
        ToldFacts facts = Check.withDesks(1);
        facts.tell(0, 1, 0, 1, 5);
        facts.tell(0, 1, 9, 1, 5);
        facts.tell(0, 2, 0, 1, 6);
        facts.tell(0, 3, 0, 100_000, 5);
        facts.tell(0, 3, 0, 1, 5 + (1L << 32));
        Check.due("kind 0, value 5", facts.find(0, 0, 5, 0), 0);
        Check.due("kind 0, value 5, the second", facts.find(0, 0, 5, 1), 24);
        Check.due("no third", facts.find(0, 0, 5, 2), Check.NONE);
        Check.due("kind 9", facts.find(0, 9, 5, 0), 8);
        Check.due("value 6", facts.find(0, 0, 6, 0), 16);
        Check.due("a great value", facts.find(0, 0, 5 + (1L << 32), 0), 32);
        Check.due("kind 9, value 6", facts.find(0, 9, 6, 0), Check.NONE);
    }

    private static void alsoWhatDoesNotStand() {
        ToldFacts facts = Check.withDesks(1);
        facts.tell(0, 1, 1, 1, 5);
        facts.correct(0, 0, 6);
        facts.correct(0, 8, 5);
        Check.due("the replaced one", facts.find(0, 1, 5, 0), 0);
        Check.due("the standing one", facts.find(0, 1, 5, 1), 16);
        Check.due("the one between", facts.find(0, 1, 6, 0), 8);
        facts.batch(0);
        facts.tell(0, 1, 1, 1, 7);
        Check.due("not in a batch", facts.find(0, 1, 7, 0), Check.NONE);
        facts.endBatch(0);
        Check.due("after it", facts.find(0, 1, 7, 0), 24);
    }

    private static void nothing() {
        ToldFacts facts = Check.withDesks(2);
        facts.tell(0, 1, 1, 1, 5);
        int[] wrong = {-1, 2, 8, Integer.MIN_VALUE, Integer.MAX_VALUE};
        for (int w : wrong) {
            Check.due("no desk " + w, facts.find(w, 1, 5, 0), Check.NONE);
            Check.due("no kind " + w, facts.find(0, w, 5, 0), Check.NONE);
            Check.due("no fact " + w, facts.find(0, 1, 5, w), Check.NONE);
        }
        Check.due("kind 11", facts.find(0, 11, 5, 0), Check.NONE);
        Check.due("desk 1 knows none", facts.find(1, 1, 5, 0), Check.NONE);
    }
}
