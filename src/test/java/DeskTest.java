/** Promise 2: desks have rising numbers, know nothing at first, and are eight at most. */
public final class DeskTest {
    public static void main(String[] args) {
        ToldFacts facts = new ToldFacts();
        for (int desk = 0; desk < 8; desk++) {
            Check.due("counts before", facts.counts(desk), Check.NONE);
            Check.due("desk()", facts.desk(), desk);
            Check.due("counts after", facts.counts(desk), 0);
            Check.due("tell at the new one", facts.tell(desk, 5, 5, 5, desk), desk);
        }
        Check.due("desk() as the ninth", facts.desk(), Check.FULL);
        Check.due("desk() as the tenth", facts.desk(), Check.FULL);
        Check.due("counts(8)", facts.counts(8), Check.NONE);
        Check.due("tell at desk 8", facts.tell(8, 5, 5, 5, 5), Check.NONE);
        for (int desk = 0; desk < 8; desk++) {
            Check.due("counts", facts.counts(desk), 1);
        }
        aLateDeskKnowsNothing();
        Check.end("DeskTest");
    }

    private static void aLateDeskKnowsNothing() {
        ToldFacts facts = Check.withDesks(1);
        Check.fill(facts, 0, 5);
        Check.due("desk()", facts.desk(), 1);
        Check.due("counts(1)", facts.counts(1), 0);
        Check.due("equal(0, 1)", facts.equal(0, 1), false);
        Check.due("its clock is 0: tell", facts.tell(1, 0, 0, 0, 3), 1);
        Check.due("known at time 1", facts.known(1, 0, 0, 0, 1), 3);
    }
}
