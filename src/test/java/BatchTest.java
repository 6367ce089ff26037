/** Promise 10: a batch begins at a desk and takes what is told there; forty at most. */
public final class BatchTest {
    public static void main(String[] args) {
        takesWhatIsTold();
        refusals();
        oneAtEachDesk();
        full();
        deskEdges();
        oneThatHasNotEnded();
        numbersUpTo39();
        fullWithAllStillOpen();
        whenNoFactIsLeft();
        refusedChangesNothing();
        fullChangesNothing();
        Check.end("BatchTest");
    }

    private static void takesWhatIsTold() {
        ToldFacts facts = Check.withDesks(2);
        facts.tell(0, 1, 1, 1, 1);
        facts.tell(0, 1, 1, 1, 2);
        Check.due("batch(0)", facts.batch(0), 0);
        Check.due("tell", facts.tell(0, 1, 1, 1, 3), 16);
        Check.due("correct", facts.correct(0, 0, 4), 24);
        Check.due("settle", facts.settle(0, 1, 1, 0), 32);
        Check.due("counts(0)", facts.counts(0), 2);
        Check.due("known", facts.known(0, 1, 1, 1, 99), 2);
        Check.due("find", facts.find(0, 1, 3, 0), Check.NONE);
        Check.due("correct one of the batch", facts.correct(0, 16, 5), Check.NONE);
        Check.due("two stand", facts.conflict(0, 0, 3), 2);
        Check.due("told at another desk", facts.tell(1, 1, 1, 1, 6), 1);
        Check.due("is known there", facts.counts(1), 1);
        Check.due("play(3, 0): what is known", facts.play(3, 0), 3);
    }

    private static void refusals() {
        ToldFacts facts = Check.withDesks(2);
        int[] wrong = {-1, 2, 8, Integer.MIN_VALUE, Integer.MAX_VALUE};
        for (int desk : wrong) {
            Check.due("batch(" + desk + ")", facts.batch(desk), Check.NONE);
        }
        Check.due("batch(0)", facts.batch(0), 0);
        Check.due("batch(0) before the end", facts.batch(0), Check.NONE);
        facts.tell(0, 1, 1, 1, 1);
        Check.due("still", facts.batch(0), Check.NONE);
        Check.due("what was told there waits", facts.counts(0), 0);
        Check.due("batch(1)", facts.batch(1), 1);
        Check.due("endBatch(0)", facts.endBatch(0), true);
        Check.due("the fact came to batch 0", facts.counts(0), 1);
        Check.due("batch(0) after the end", facts.batch(0), 2);
    }

    private static void oneAtEachDesk() {
        ToldFacts facts = Check.withDesks(8);
        for (int desk = 7; desk >= 0; desk--) {
            Check.due("batch(" + desk + ")", facts.batch(desk), 7 - desk);
            Check.due("tell", facts.tell(desk, 1, 1, 1, desk), desk);
        }
        for (int desk = 0; desk < 8; desk++) {
            Check.due("counts before", facts.counts(desk), 0);
            Check.due("endBatch", facts.endBatch(7 - desk), true);
            Check.due("counts after", facts.counts(desk), 1);
            Check.due("known after", facts.known(desk, 1, 1, 1, 1), desk);
        }
    }

    private static void full() {
        ToldFacts facts = Check.withDesks(2);
        for (int batch = 0; batch < 39; batch++) {
            Check.due("batch(0)", facts.batch(0), batch);
            Check.due("endBatch", facts.endBatch(batch), true);
        }
        Check.due("the 40th", facts.batch(1), 39);
        Check.due("full", facts.batch(0), Check.FULL);
        Check.due("full: the open one comes before it", facts.batch(1), Check.NONE);
        Check.due("full: no desk comes before it", facts.batch(2), Check.NONE);
        Check.due("told at desk 0", facts.tell(0, 1, 1, 1, 1), 0);
        Check.due("is known: no batch began", facts.counts(0), 1);
        Check.due("told at desk 1", facts.tell(1, 1, 1, 1, 1), 1);
        Check.due("is not", facts.counts(1), 0);
        Check.due("endBatch(39)", facts.endBatch(39), true);
        Check.due("now it is", facts.counts(1), 1);
        Check.due("full", facts.batch(1), Check.FULL);
        Check.due("no batch 40", facts.endBatch(40), false);
    }

    private static void deskEdges() {
        ToldFacts facts = Check.withDesks(8);
        int[] none = {Integer.MIN_VALUE, Integer.MIN_VALUE + 1, -8, -1, 8, 9, Integer.MAX_VALUE};
        for (int desk : none) {
            Check.due("batch(" + desk + ")", facts.batch(desk), Check.NONE);
        }
        Check.due("batch(7)", facts.batch(7), 0);
        Check.due("batch(0)", facts.batch(0), 1);
    }

    private static void oneThatHasNotEnded() {
        ToldFacts facts = Check.withDesks(2);
        Check.due("batch(0)", facts.batch(0), 0);
        Check.due("it has not ended", facts.batch(0), Check.NONE);
        Check.due("another desk's end", facts.batch(1), 1);
        Check.due("endBatch(1)", facts.endBatch(1), true);
        Check.due("is not its end", facts.batch(0), Check.NONE);
        facts.join(0, 1);
        Check.due("nor is a join", facts.batch(0), Check.NONE);
        Check.due("nor is a refused end", facts.endBatch(2), false);
        Check.due("it goes on", facts.batch(0), Check.NONE);
        Check.due("endBatch(0)", facts.endBatch(0), true);
        Check.due("now it has ended", facts.batch(0), 2);
    }

    private static void numbersUpTo39() {
        ToldFacts facts = Check.withDesks(8);
        for (int batch = 0; batch < 40; batch++) {
            Check.due("batch", facts.batch(batch % 8), batch);
            Check.due("a refused one takes no number", facts.batch(batch % 8), Check.NONE);
            Check.due("a fact comes to it", facts.tell(batch % 8, 1, 1, 1, batch), 8 * (batch / 8) + batch % 8);
            Check.due("is not known", facts.counts(batch % 8), batch / 8);
            Check.due("endBatch", facts.endBatch(batch), true);
            Check.due("is known", facts.counts(batch % 8), batch / 8 + 1);
        }
        for (int desk = 0; desk < 8; desk++) {
            Check.due("a 41st at desk " + desk, facts.batch(desk), Check.FULL);
        }
    }

    private static void fullWithAllStillOpen() {
        ToldFacts facts = Check.withDesks(8);
        for (int batch = 0; batch < 32; batch++) {
            facts.batch(0);
            facts.endBatch(batch);
        }
        for (int desk = 0; desk < 8; desk++) {
            Check.due("batch", facts.batch(desk), 32 + desk);
        }
        for (int desk = 0; desk < 8; desk++) {
            Check.due("it has one that has not ended", facts.batch(desk), Check.NONE);
            Check.due("endBatch", facts.endBatch(32 + desk), true);
            Check.due("there were 40", facts.batch(desk), Check.FULL);
            Check.due("none began", facts.tell(desk, 1, 1, 1, 1), desk);
            Check.due("so it is known", facts.counts(desk), 1);
        }
    }

    private static void whenNoFactIsLeft() {
        ToldFacts facts = Check.withDesks(1);
        Check.fill(facts, 0, 300);
        Check.due("a batch may begin", facts.batch(0), 0);
        Check.due("but no fact comes to it", facts.tell(0, 1, 1, 1, 1), Check.FULL);
        Check.due("endBatch(0)", facts.endBatch(0), true);
        Check.due("counts(0)", facts.counts(0), 300);
    }

    private static void refusedChangesNothing() {
        for (int desk : new int[] {Integer.MIN_VALUE, -1, 3, 8, Integer.MAX_VALUE}) {
            Twins.noEffect("batch at desk " + desk, Twins::few, Check.NONE, x -> x.batch(desk));
        }
        Twins.noEffect("batch at a desk that has one", Twins::few, Check.NONE, x -> x.batch(1));
        Twins.noEffect("batch at a desk that has one when full", Twins::full, Check.NONE, x -> x.batch(1));
        Twins.noEffect("batch at desk 8 when full", Twins::full, Check.NONE, x -> x.batch(8));
    }

    private static void fullChangesNothing() {
        Twins.noEffect("batch when full", Twins::full, Check.FULL, x -> x.batch(0));
        Twins.noEffect("a 41st batch", BatchTest::fortyAndRoomForFacts, Check.FULL, x -> x.batch(0));
    }

    private static void fortyAndRoomForFacts(ToldFacts facts) {
        Twins.few(facts);
        for (int batch = 2; batch < 40; batch++) {
            facts.batch(0);
            facts.endBatch(batch);
        }
    }
}
