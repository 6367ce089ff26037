/** Promise 10: a batch begins at a desk and takes what is told there; forty at most. */
public final class BatchTest {
    public static void main(String[] args) {
        takesWhatIsTold();
        refusals();
        oneAtEachDesk();
        full();
        Check.end("BatchTest");
    }

    private static void takesWhatIsTold() {
        ToldFacts facts = Check.withDesks(2);
        facts.tell(0, 1, 1, 1, 1);
        facts.tell(0, 1, 1, 1, 2);
        Check.due("batch(0)", facts.batch(0), 0);
        Check.due("tell", facts.tell(0, 1, 1, 1, 3), 16);
        Check.due("correct", facts.correct(0, 0, 4), 24);
        Check.due("settle", facts.settle(0, 1, 1, 0), 32);
        Check.due("counts(0)", facts.counts(0), 2);
        Check.due("known", facts.known(0, 1, 1, 1, 99), 2);
        Check.due("find", facts.find(0, 1, 3, 0), Check.NONE);
        Check.due("correct one of the batch", facts.correct(0, 16, 5), Check.NONE);
        Check.due("two stand", facts.conflict(0, 0, 3), 2);
        Check.due("told at another desk", facts.tell(1, 1, 1, 1, 6), 1);
        Check.due("is known there", facts.counts(1), 1);
        Check.due("play(3, 0): what is known", facts.play(3, 0), 3);
    }

    private static void refusals() {
        ToldFacts facts = Check.withDesks(2);
        int[] wrong = {-1, 2, 8, Integer.MIN_VALUE, Integer.MAX_VALUE};
        for (int desk : wrong) {
            Check.due("batch(" + desk + ")", facts.batch(desk), Check.NONE);
        }
        Check.due("batch(0)", facts.batch(0), 0);
        Check.due("batch(0) before the end", facts.batch(0), Check.NONE);
        facts.tell(0, 1, 1, 1, 1);
        Check.due("still", facts.batch(0), Check.NONE);
        Check.due("what was told there waits", facts.counts(0), 0);
        Check.due("batch(1)", facts.batch(1), 1);
        Check.due("endBatch(0)", facts.endBatch(0), true);
        Check.due("the fact came to batch 0", facts.counts(0), 1);
        Check.due("batch(0) after the end", facts.batch(0), 2);
    }

    private static void oneAtEachDesk() {
        ToldFacts facts = Check.withDesks(8);
        for (int desk = 7; desk >= 0; desk--) {
            Check.due("batch(" + desk + ")", facts.batch(desk), 7 - desk);
            Check.due("tell", facts.tell(desk, 1, 1, 1, desk), desk);
        }
        for (int desk = 0; desk < 8; desk++) {
            Check.due("counts before", facts.counts(desk), 0);
            Check.due("endBatch", facts.endBatch(7 - desk), true);
            Check.due("counts after", facts.counts(desk), 1);
            Check.due("known after", facts.known(desk, 1, 1, 1, 1), desk);
        }
    }

    private static void full() {
        ToldFacts facts = Check.withDesks(2);
        for (int batch = 0; batch < 39; batch++) {
            Check.due("batch(0)", facts.batch(0), batch);
            Check.due("endBatch", facts.endBatch(batch), true);
        }
        Check.due("the 40th", facts.batch(1), 39);
        Check.due("full", facts.batch(0), Check.FULL);
        Check.due("full: the open one comes before it", facts.batch(1), Check.NONE);
        Check.due("full: no desk comes before it", facts.batch(2), Check.NONE);
        Check.due("told at desk 0", facts.tell(0, 1, 1, 1, 1), 0);
        Check.due("is known: no batch began", facts.counts(0), 1);
        Check.due("told at desk 1", facts.tell(1, 1, 1, 1, 1), 1);
        Check.due("is not", facts.counts(1), 0);
        Check.due("endBatch(39)", facts.endBatch(39), true);
        Check.due("now it is", facts.counts(1), 1);
        Check.due("full", facts.batch(1), Check.FULL);
        Check.due("no batch 40", facts.endBatch(40), false);
    }
}
