/** Promise 14: how many facts a desk knows; NONE when there is no such desk. */
public final class CountsTest {
    public static void main(String[] args) {
        whatCounts();
        noneWhenThereIsNoSuchDesk();
        emptyAndFull();
        changesNothing();
        Check.end("CountsTest");
    }

    private static void whatCounts() {
        ToldFacts facts = Check.withDesks(8);
        for (int c = 0; c < 100; c++) {
            Check.due("counts(7)", facts.counts(7), c);
            facts.tell(7, 1, 1, 1, c);
        }
        facts.correct(7, 7, 5);
        Check.due("a replaced one counts", facts.counts(7), 101);
        facts.settle(7, 1, 1, 0);
        Check.due("so do all that were settled", facts.counts(7), 102);
        facts.batch(0);
        facts.tell(0, 1, 1, 1, 1);
        Check.due("one in a batch does not", facts.counts(0), 0);
        facts.join(0, 7);
        Check.due("counts(0)", facts.counts(0), 102);
        facts.endBatch(0);
        Check.due("after the batch", facts.counts(0), 103);
        facts.join(7, 0);
        facts.join(0, 7);
        Check.due("none counts twice", facts.counts(0), 103);
    }

    private static void noneWhenThereIsNoSuchDesk() {
        ToldFacts facts = new ToldFacts();
        for (int desks = 0; desks <= 8; desks++) {
            int[] none = {Integer.MIN_VALUE, Integer.MIN_VALUE + 1, -8, -2, -1, desks, 8, 9, Integer.MAX_VALUE};
            for (int desk : none) {
                Check.due("counts(" + desk + ") of " + desks, facts.counts(desk), Check.NONE);
            }
            for (int desk = 0; desk < desks; desk++) {
                Check.due("counts(" + desk + ") of " + desks, facts.counts(desk), 0);
            }
            facts.desk();
        }
    }

    private static void emptyAndFull() {
        ToldFacts facts = Check.withDesks(8);
        Check.due("empty", facts.counts(7), 0);
        Check.fill(facts, 7, 299);
        Check.due("299", facts.counts(7), 299);
        Check.due("the 300th", facts.tell(7, 1, 1, 1, 1), 2399);
        Check.due("300", facts.counts(7), 300);
        Check.due("full", facts.tell(7, 1, 1, 1, 1), Check.FULL);
        Check.due("no more", facts.counts(7), 300);
        Check.due("another desk", facts.counts(0), 0);
    }

    private static void changesNothing() {
        Twins.noEffect("counts", Twins::few, 4, x -> x.counts(0));
        Twins.noEffect("counts of none", Twins::few, Check.NONE, x -> x.counts(3));
    }
}
