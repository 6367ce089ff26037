/** Promise 11: at the end of a batch its facts are known at its desk, all at once. */
public final class EndBatchTest {
    public static void main(String[] args) {
        comesWhole();
        timesAreThoseOfTelling();
        refusals();
        onlyItsOwnFacts();
        firstAndLastBatch();
        onceAlone();
        emptyBatch();
        batchOfAllFacts();
        refusedChangesNothing();
        Check.end("EndBatchTest");
    }

    private static void comesWhole() {
        ToldFacts facts = Check.withDesks(2);
        facts.batch(0);
        for (int c = 0; c < 100; c++) {
            facts.tell(0, c, 1, 1, c);
        }
        Check.due("counts(0) before", facts.counts(0), 0);
        Check.due("endBatch(0)", facts.endBatch(0), true);
        Check.due("counts(0)", facts.counts(0), 100);
        Check.due("counts(1)", facts.counts(1), 0);
        Check.due("told after it", facts.tell(0, 1, 1, 1, 1), 800);
        Check.due("is known at once", facts.counts(0), 101);
        Check.due("join(1, 0)", facts.join(1, 0), 0);
        Check.due("counts(1)", facts.counts(1), 101);
    }

    private static void timesAreThoseOfTelling() {
        ToldFacts facts = Check.withDesks(2);
        facts.batch(0);
        facts.tell(0, 1, 1, 1, 10);
        Check.fill(facts, 1, 5);
        facts.join(0, 1);
        facts.tell(0, 1, 1, 1, 20);
        facts.endBatch(0);
        Check.due("at 0", facts.known(0, 1, 1, 1, 0), Check.NOTHING);
        Check.due("at 1", facts.known(0, 1, 1, 1, 1), 10);
        Check.due("at 5", facts.known(0, 1, 1, 1, 5), 10);
        Check.due("at 6", facts.known(0, 1, 1, 1, 6), 20);
        facts.tell(0, 1, 1, 1, 30);
        Check.due("the end takes no time: at 6", facts.known(0, 1, 1, 1, 6), 20);
        Check.due("at 7", facts.known(0, 1, 1, 1, 7), 30);
    }

    private static void refusals() {
        ToldFacts facts = Check.withDesks(2);
        Check.due("endBatch(0) before any", facts.endBatch(0), false);
        facts.batch(1);
        facts.tell(1, 1, 1, 1, 1);
        int[] wrong = {-1, 1, 39, 40, Integer.MIN_VALUE, Integer.MAX_VALUE};
        for (int batch : wrong) {
            Check.due("endBatch(" + batch + ")", facts.endBatch(batch), false);
        }
        Check.due("counts(1)", facts.counts(1), 0);
        Check.due("endBatch(0)", facts.endBatch(0), true);
        Check.due("endBatch(0) again", facts.endBatch(0), false);
        facts.batch(1);
        facts.tell(1, 1, 1, 1, 2);
        Check.due("an ended one of the same desk", facts.endBatch(0), false);
        Check.due("the second goes on", facts.counts(1), 1);
        Check.due("endBatch(1)", facts.endBatch(1), true);
        Check.due("counts(1)", facts.counts(1), 2);
    }

    private static void onlyItsOwnFacts() {
        ToldFacts facts = Check.withDesks(2);
        facts.batch(0);
        facts.batch(1);
        facts.tell(0, 1, 1, 1, 1);
        facts.tell(1, 1, 1, 1, 2);
        facts.endBatch(1);
        Check.due("counts(0)", facts.counts(0), 0);
        Check.due("counts(1)", facts.counts(1), 1);
        Check.due("join(0, 1)", facts.join(0, 1), 0);
        Check.due("counts(0)", facts.counts(0), 1);
        facts.endBatch(0);
        Check.due("counts(0)", facts.counts(0), 2);
        Check.due("now in conflict", facts.conflict(0, 0, 3), 2);
        facts.batch(0);
        facts.endBatch(2);
        Check.due("an empty one brings nothing", facts.counts(0), 2);
        Check.due("counts(1)", facts.counts(1), 1);
    }

    private static void firstAndLastBatch() {
        ToldFacts facts = Check.withDesks(8);
        for (int batch = 0; batch < 40; batch++) {
            Check.due("not yet begun", facts.endBatch(batch), false);
            Check.due("batch", facts.batch(7), batch);
            Check.due("the next is not begun", facts.endBatch(batch + 1), false);
            Check.due("the one before has ended", facts.endBatch(batch - 1), false);
            Check.due("tell", facts.tell(7, 1, 1, 1, batch), 8 * batch + 7);
            Check.due("the end", facts.endBatch(batch), true);
            Check.due("counts", facts.counts(7), batch + 1);
        }
        int[] none = {Integer.MIN_VALUE, Integer.MIN_VALUE + 1, -40, -2, -1, 0, 39, 40, 41, Integer.MAX_VALUE};
        for (int batch : none) {
            Check.due("endBatch(" + batch + ")", facts.endBatch(batch), false);
        }
    }

    private static void onceAlone() {
        ToldFacts facts = Check.withDesks(2);
        facts.batch(0);
        facts.tell(0, 1, 1, 1, 1);
        Check.due("the end", facts.endBatch(0), true);
        Check.due("again", facts.endBatch(0), false);
        Check.due("a second at the desk", facts.batch(0), 1);
        facts.tell(0, 1, 1, 1, 2);
        Check.due("the first does not end it", facts.endBatch(0), false);
        Check.due("what is in it waits", facts.counts(0), 1);
        Check.due("the end", facts.endBatch(1), true);
        Check.due("is known", facts.counts(0), 2);
        Check.due("again", facts.endBatch(1), false);
    }

    private static void emptyBatch() {
        ToldFacts facts = Check.withDesks(2);
        facts.batch(1);
        Check.due("the end of an empty one", facts.endBatch(0), true);
        Check.due("counts(1)", facts.counts(1), 0);
        Check.due("again", facts.endBatch(0), false);
        Check.due("tell", facts.tell(1, 1, 1, 1, 1), 1);
        Check.due("at time 1", Check.timeOf(facts, 1, 1, 1, 1), 1);
    }

    private static void batchOfAllFacts() {
        ToldFacts facts = Check.withDesks(8);
        facts.batch(7);
        Check.fill(facts, 7, 300);
        Check.due("counts(7)", facts.counts(7), 0);
        Check.due("no more", facts.tell(7, 1, 1, 1, 1), Check.FULL);
        Check.due("the end", facts.endBatch(0), true);
        Check.due("counts(7)", facts.counts(7), 300);
        Check.due("the last", facts.find(7, 9, 7, 299), 2399);
        Check.due("its time", Check.timeOf(facts, 7, 99, 9, 1000), 1);
    }

    private static void refusedChangesNothing() {
        for (int batch : new int[] {Integer.MIN_VALUE, -1, 1, 2, 39, 40, Integer.MAX_VALUE}) {
            Twins.noEffect("endBatch(" + batch + ")", Twins::few, 0, x -> x.endBatch(batch) ? 1 : 0);
        }
        for (int batch : new int[] {1, 2, 39, 40}) {
            Twins.noEffect("endBatch(" + batch + ") when full", Twins::full, 0, x -> x.endBatch(batch) ? 1 : 0);
        }
        Twins.noEffect("the end of the first when the second is open", x -> {
            Twins.few(x);
            x.endBatch(0);
            x.batch(1);
            x.tell(1, 1, 1, 1, 1);
        }, 0, x -> x.endBatch(0) ? 1 : 0);
    }
}
