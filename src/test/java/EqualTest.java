/** Promise 9: whether two desks know the same facts. */
public final class EqualTest {
    public static void main(String[] args) {
        sameFactsNotSameValues();
        bothWays();
        differsByTheLastFact();
        openBatchesDoNotCount();
        noSuchDesk();
        falseWhenOneIsNone();
        emptyAndFull();
        changesNothing();
        Check.end("EqualTest");
    }

    private static void sameFactsNotSameValues() {
        ToldFacts facts = Check.withDesks(8);
        Check.due("two that know nothing", facts.equal(0, 7), true);
        facts.tell(0, 1, 1, 1, 1);
        facts.tell(7, 1, 1, 1, 1);
        Check.due("two facts that say the same", facts.equal(0, 7), false);
        facts.join(0, 7);
        Check.due("one knows more", facts.equal(0, 7), false);
        Check.due("the other less", facts.equal(7, 0), false);
        facts.join(7, 0);
        Check.due("both know both", facts.equal(0, 7), true);
        Check.due("a third knows none", facts.equal(0, 3), false);
    }

    private static void bothWays() {
        ToldFacts facts = Check.withDesks(2);
        for (int c = 0; c < 20; c++) {
            facts.tell(c % 2, c, 1, 1, c);
            Check.due("with itself", facts.equal(c % 2, c % 2), true);
            Check.due("equal(0, 1)", facts.equal(0, 1), false);
            Check.due("equal(1, 0)", facts.equal(1, 0), false);
            facts.join(1 - c % 2, c % 2);
            Check.due("equal(0, 1) after the join", facts.equal(0, 1), true);
            Check.due("equal(1, 0) after the join", facts.equal(1, 0), true);
        }
    }

    private static void differsByTheLastFact() {
        ToldFacts facts = Check.withDesks(2);
        Check.fill(facts, 0, 299);
        facts.join(1, 0);
        Check.due("after the join", facts.equal(0, 1), true);
        Check.due("the 300th", facts.tell(1, 1, 1, 1, 1), 1);
        Check.due("the last differs", facts.equal(0, 1), false);
        facts.join(0, 1);
        Check.due("and is joined", facts.equal(0, 1), true);
    }

    private static void openBatchesDoNotCount() {
        ToldFacts facts = Check.withDesks(2);
        facts.batch(0);
        facts.tell(0, 1, 1, 1, 1);
        Check.due("in the batch", facts.equal(0, 1), true);
        facts.endBatch(0);
        Check.due("after it", facts.equal(0, 1), false);
    }

    private static void noSuchDesk() {
        ToldFacts facts = Check.withDesks(2);
        int[] wrong = {-1, 2, 8, Integer.MIN_VALUE, Integer.MAX_VALUE};
        for (int desk : wrong) {
            Check.due("equal(0, " + desk + ")", facts.equal(0, desk), false);
            Check.due("equal(" + desk + ", 0)", facts.equal(desk, 0), false);
            Check.due("one none with itself", facts.equal(desk, desk), false);
        }
        Check.due("the desks that are", facts.equal(0, 1), true);
    }

    /** Also where the desk that is none would know what the other does: nothing. */
    private static void falseWhenOneIsNone() {
        ToldFacts facts = new ToldFacts();
        Check.due("no desks", facts.equal(0, 0), false);
        for (int desks = 1; desks <= 8; desks++) {
            facts.desk();
            int last = desks - 1;
            Check.due("the last with itself", facts.equal(last, last), true);
            Check.due("the last with the first", facts.equal(last, 0), true);
            int[] none = {Integer.MIN_VALUE, -1, desks, 8, Integer.MAX_VALUE};
            for (int desk : none) {
                Check.due("the last with " + desk, facts.equal(last, desk), false);
                Check.due(desk + " with the last", facts.equal(desk, last), false);
                Check.due(desk + " with itself", facts.equal(desk, desk), false);
            }
        }
    }

    private static void emptyAndFull() {
        ToldFacts facts = Check.withDesks(3);
        Check.due("both empty", facts.equal(0, 1), true);
        Check.fill(facts, 0, 300);
        Check.due("one full", facts.equal(0, 1), false);
        Check.due("the other way", facts.equal(1, 0), false);
        facts.join(1, 0);
        Check.due("both full", facts.equal(0, 1), true);
        Check.due("a third is empty", facts.equal(2, 1), false);
    }

    private static void changesNothing() {
        Twins.noEffect("equal", Twins::few, 1, x -> x.equal(0, 0) ? 1 : 0);
        Twins.noEffect("equal, not so", Twins::few, 0, x -> x.equal(0, 1) ? 1 : 0);
        Twins.noEffect("equal of none", Twins::few, 0, x -> x.equal(0, 3) ? 1 : 0);
    }
}
