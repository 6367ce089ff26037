/** Promise 1: a new object has no desks. */
public final class NewObjectTest {
    private static final int[] DESKS = {Integer.MIN_VALUE, -1, 0, 1, 2, 6, 7, 8, Integer.MAX_VALUE};

    public static void main(String[] args) {
        Check.due("NONE", ToldFacts.NONE, -1);
        Check.due("FULL", ToldFacts.FULL, -2);
        noDesks();
        refusedCallsMakeNone();
        objectsAreApart();
        Check.end("NewObjectTest");
    }

    private static void noDesks() {
        ToldFacts facts = new ToldFacts();
        for (int desk : DESKS) {
            Check.due("counts", facts.counts(desk), Check.NONE);
            Check.due("tell", facts.tell(desk, 0, 0, 0, 0), Check.NONE);
            Check.due("correct", facts.correct(desk, 0, 0), Check.NONE);
            Check.due("join", facts.join(desk, 1), Check.NONE);
            Check.due("join", facts.join(1, desk), Check.NONE);
            Check.due("known", facts.known(desk, 0, 0, 0, 1), Check.NOTHING);
            Check.due("conflict", facts.conflict(desk, 0, 0), Check.NONE);
            Check.due("settle", facts.settle(desk, 0, 0, 0), Check.NONE);
            Check.due("equal", facts.equal(desk, desk), false);
            Check.due("equal", facts.equal(desk, 0), false);
            Check.due("batch", facts.batch(desk), Check.NONE);
            Check.due("endBatch", facts.endBatch(desk), false);
            Check.due("find", facts.find(desk, 0, 0, 0), Check.NONE);
            Check.due("play", facts.play(1, desk), Check.NONE);
        }
        Check.due("desk()", facts.desk(), 0);
    }

    private static void refusedCallsMakeNone() {
        Twins.noEffect("tell at no desk", Twins::nothing, Check.NONE, x -> x.tell(0, 0, 0, 0, 0));
        Twins.noEffect("correct at no desk", Twins::nothing, Check.NONE, x -> x.correct(0, 0, 0));
        Twins.noEffect("join of no desks", Twins::nothing, Check.NONE, x -> x.join(0, 1));
        Twins.noEffect("settle at no desk", Twins::nothing, Check.NONE, x -> x.settle(0, 0, 0, 0));
        Twins.noEffect("batch at no desk", Twins::nothing, Check.NONE, x -> x.batch(0));
        Twins.noEffect("the end of no batch", Twins::nothing, 0, x -> x.endBatch(0) ? 1 : 0);
        Twins.noEffect("play without desks", Twins::nothing, Check.NONE, x -> x.play(1, 200));
    }

    private static void objectsAreApart() {
        ToldFacts one = Check.withDesks(1);
        ToldFacts two = new ToldFacts();
        Check.due("counts(0) of a second object", two.counts(0), Check.NONE);
        Check.due("desk() of a second object", two.desk(), 0);
        one.tell(0, 1, 1, 1, 1);
        Check.due("counts(0) of the second", two.counts(0), 0);
        Check.due("tell at the second", two.tell(0, 1, 1, 1, 1), 0);
        Check.due("counts(0) of the first", one.counts(0), 1);
        Check.due("batch at the first", one.batch(0), 0);
        Check.due("batch at the second", two.batch(0), 0);
    }
}
