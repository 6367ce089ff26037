/** Promise 14: how many facts a desk knows. */
public final class CountsTest {
    public static void main(String[] args) {
        ToldFacts facts = Check.withDesks(8);
        for (int c = 0; c < 100; c++) {
            Check.due("counts(7)", facts.counts(7), c);
            facts.tell(7, 1, 1, 1, c);
        }
        facts.correct(7, 7, 5);
        Check.due("a replaced one counts", facts.counts(7), 101);
        facts.settle(7, 1, 1, 0);
        Check.due("so do all that were settled", facts.counts(7), 102);
        facts.batch(0);
        facts.tell(0, 1, 1, 1, 1);
        Check.due("one in a batch does not", facts.counts(0), 0);
        facts.join(0, 7);
        Check.due("counts(0)", facts.counts(0), 102);
        facts.endBatch(0);
        Check.due("after the batch", facts.counts(0), 103);
        facts.join(7, 0);
        facts.join(0, 7);
        Check.due("none counts twice", facts.counts(0), 103);
        Check.fill(facts, 7, 197);
        Check.due("all", facts.counts(7), 300);
        Check.due("full", facts.tell(7, 1, 1, 1, 1), Check.FULL);
        Check.due("no more", facts.counts(7), 300);
        int[] wrong = {-1, 8, 9, Integer.MIN_VALUE, Integer.MAX_VALUE};
        for (int desk : wrong) {
            Check.due("no desk " + desk, facts.counts(desk), Check.NONE);
        }
        Check.end("CountsTest");
    }
}
