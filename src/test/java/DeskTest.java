/** Promise 2: desks have rising numbers, know nothing at first, and are eight at most. */
public final class DeskTest {
    public static void main(String[] args) {
        itsNumber();
        aLateDeskKnowsNothing();
        aDeskIsMadeWhenAllElseIsFull();
        fullAfterEight();
        fullChangesNothing();
        Check.end("DeskTest");
    }

    private static void itsNumber() {
        ToldFacts facts = new ToldFacts();
        for (int desk = 0; desk < 8; desk++) {
            Check.due("counts before", facts.counts(desk), Check.NONE);
            Check.due("desk()", facts.desk(), desk);
            Check.due("counts after", facts.counts(desk), 0);
            Check.due("tell at the new one", facts.tell(desk, 5, 5, 5, desk), desk);
        }
    }

    private static void aLateDeskKnowsNothing() {
        ToldFacts facts = Check.withDesks(1);
        Check.fill(facts, 0, 5);
        Check.due("desk()", facts.desk(), 1);
        Check.due("counts(1)", facts.counts(1), 0);
        Check.due("equal(0, 1)", facts.equal(0, 1), false);
        Check.due("find", facts.find(1, 9, 7, 0), Check.NONE);
        Check.due("known", facts.known(1, 99, 9, 100_000, 500), Check.NOTHING);
        Check.due("correct", facts.correct(1, 0, 1), Check.NONE);
        Check.due("it has no open batch", facts.batch(1), 0);
        Check.due("endBatch(0)", facts.endBatch(0), true);
        Check.due("its clock is 0: tell", facts.tell(1, 0, 0, 0, 3), 1);
        Check.due("known at time 1", facts.known(1, 0, 0, 0, 1), 3);
    }

    private static void aDeskIsMadeWhenAllElseIsFull() {
        ToldFacts facts = Check.withDesks(7);
        for (int batch = 0; batch < 40; batch++) {
            facts.batch(0);
            facts.endBatch(batch);
        }
        Check.fill(facts, 0, 300);
        Check.due("no batch is left", facts.batch(0), Check.FULL);
        Check.due("no fact is left", facts.tell(0, 0, 0, 0, 0), Check.FULL);
        Check.due("but a desk", facts.desk(), 7);
        Check.due("that knows nothing", facts.counts(7), 0);
        Check.due("no ninth", facts.desk(), Check.FULL);
    }

    private static void fullAfterEight() {
        ToldFacts facts = Check.withDesks(7);
        Check.due("desk() as the eighth", facts.desk(), 7);
        Check.due("desk() as the ninth", facts.desk(), Check.FULL);
        Check.due("desk() as the tenth", facts.desk(), Check.FULL);
        Check.due("counts(7)", facts.counts(7), 0);
        Check.due("counts(8)", facts.counts(8), Check.NONE);
        Check.due("tell at desk 8", facts.tell(8, 5, 5, 5, 5), Check.NONE);
    }

    private static void fullChangesNothing() {
        Twins.noEffect("desk() of a ninth", x -> {
            Twins.few(x);
            for (int desk = 3; desk < 8; desk++) {
                x.desk();
            }
        }, Check.FULL, x -> x.desk());
        Twins.noEffect("desk() when all is full", Twins::full, Check.FULL, x -> x.desk());
    }
}
