/** Promise 1: a new object has no desks. */
public final class NewObjectTest {
    public static void main(String[] args) {
        Check.due("NONE", ToldFacts.NONE, -1);
        Check.due("FULL", ToldFacts.FULL, -2);
        ToldFacts facts = new ToldFacts();
        for (int desk = -1; desk <= 8; desk++) {
            Check.due("counts", facts.counts(desk), Check.NONE);
            Check.due("tell", facts.tell(desk, 0, 0, 0, 0), Check.NONE);
            Check.due("correct", facts.correct(desk, 0, 0), Check.NONE);
            Check.due("join", facts.join(desk, 1), Check.NONE);
            Check.due("known", facts.known(desk, 0, 0, 0, 1), Check.NOTHING);
            Check.due("conflict", facts.conflict(desk, 0, 0), Check.NONE);
            Check.due("settle", facts.settle(desk, 0, 0, 0), Check.NONE);
            Check.due("equal", facts.equal(desk, desk), false);
            Check.due("batch", facts.batch(desk), Check.NONE);
            Check.due("find", facts.find(desk, 0, 0, 0), Check.NONE);
        }
        Check.due("endBatch(0)", facts.endBatch(0), false);
        Check.due("play(1, 0)", facts.play(1, 0), Check.NONE);
        Check.due("desk()", facts.desk(), 0);
        objectsAreApart();
        Check.end("NewObjectTest");
    }

    private static void objectsAreApart() {
        ToldFacts one = Check.withDesks(1);
        ToldFacts two = new ToldFacts();
        Check.due("counts(0) of a second object", two.counts(0), Check.NONE);
        Check.due("desk() of a second object", two.desk(), 0);
        one.tell(0, 1, 1, 1, 1);
        Check.due("counts(0) of the second", two.counts(0), 0);
        Check.due("tell at the second", two.tell(0, 1, 1, 1, 1), 0);
        Check.due("counts(0) of the first", one.counts(0), 1);
    }
}
