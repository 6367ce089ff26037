/** Promise 4: a correction replaces one standing fact that is known, and keeps it. */
public final class CorrectTest {
    public static void main(String[] args) {
        oldOnesAreKept();
        refusals();
        oneFactCorrectedAtTwoDesks();
        sameValueIsTaken();
        inABatch();
        full();
        ofAllThatItKnows();
        whatItDoesNotKnow();
        whatDoesNotStand();
        firstAndLastFact();
        refusedChangesNothing();
        fullChangesNothing();
        Check.end("CorrectTest");
    }

    private static void oldOnesAreKept() {
        ToldFacts facts = Check.withDesks(1);
        facts.tell(0, 3, 4, 5, 10);
        Check.due("correct", facts.correct(0, 0, 20), 8);
        Check.due("correct again", facts.correct(0, 8, 30), 16);
        Check.due("known at 1", facts.known(0, 3, 4, 5, 1), 10);
        Check.due("known at 2", facts.known(0, 3, 4, 5, 2), 20);
        Check.due("known at 3", facts.known(0, 3, 4, 5, 3), 30);
        Check.due("known a day before", facts.known(0, 3, 4, 4, 3), Check.NOTHING);
        Check.due("known of another kind", facts.known(0, 3, 3, 5, 3), Check.NOTHING);
        Check.due("counts", facts.counts(0), 3);
        Check.due("no conflict", facts.conflict(0, 0, 0), Check.NONE);
        Check.due("find the first", facts.find(0, 4, 10, 0), 0);
    }

    private static void refusals() {
        ToldFacts facts = Check.withDesks(2);
        facts.tell(0, 3, 4, 5, 10);
        facts.tell(1, 3, 4, 5, 11);
        int[] desks = {-1, 2, Integer.MIN_VALUE, Integer.MAX_VALUE};
        for (int desk : desks) {
            Check.due("no desk " + desk, facts.correct(desk, 0, 1), Check.NONE);
        }
        int[] unknown = {-8, -1, 1, 2, 8, 2399, 2400, Integer.MIN_VALUE, Integer.MAX_VALUE};
        for (int fact : unknown) {
            Check.due("unknown " + fact, facts.correct(0, fact, 1), Check.NONE);
        }
        Check.due("correct(0, 0)", facts.correct(0, 0, 12), 8);
        Check.due("does not stand", facts.correct(0, 0, 13), Check.NONE);
        Check.due("counts", facts.counts(0), 2);
        Check.due("known at 2", facts.known(0, 3, 4, 5, 2), 12);
        Check.due("the number and time after it", facts.correct(0, 8, 14), 16);
        Check.due("known at 3", facts.known(0, 3, 4, 5, 3), 14);
    }

    /** What stands is a matter of what that desk knows. */
    private static void oneFactCorrectedAtTwoDesks() {
        ToldFacts facts = Check.withDesks(3);
        facts.tell(0, 1, 1, 1, 10);
        facts.join(1, 0);
        Check.due("at desk 0", facts.correct(0, 0, 20), 8);
        Check.due("at desk 1, where it still stands", facts.correct(1, 0, 30), 1);
        Check.due("join", facts.join(0, 1), 1);
        Check.due("two stand", facts.conflict(0, 0, 3), 2);
        Check.due("one of them", facts.conflict(0, 0, 4), 1);
        Check.due("the other", facts.conflict(0, 0, 5), 8);
        Check.due("correct one", facts.correct(0, 1, 20), 16);
        Check.due("both say 20: no conflict", facts.conflict(0, 0, 0), Check.NONE);
        Check.due("times are those of the desks: known at 2", facts.known(0, 1, 1, 1, 2), 20);
        Check.due("desk 2 knows none", facts.correct(2, 16, 1), Check.NONE);
    }

    private static void sameValueIsTaken() {
        ToldFacts facts = Check.withDesks(1);
        facts.tell(0, 1, 1, 1, 10);
        Check.due("the same value", facts.correct(0, 0, 10), 8);
        Check.due("the first does not stand", facts.correct(0, 0, 11), Check.NONE);
    }

    private static void inABatch() {
        ToldFacts facts = Check.withDesks(1);
        facts.tell(0, 1, 1, 1, 10);
        facts.batch(0);
        Check.due("correct in the batch", facts.correct(0, 0, 20), 8);
        Check.due("it is not known", facts.correct(0, 8, 30), Check.NONE);
        Check.due("so the first stands", facts.known(0, 1, 1, 1, 99), 10);
        Check.due("and can be corrected", facts.correct(0, 0, 40), 16);
        facts.endBatch(0);
        Check.due("now it does not stand", facts.correct(0, 0, 50), Check.NONE);
        Check.due("the two are in conflict", facts.conflict(0, 0, 3), 2);
        Check.due("the second is later", facts.known(0, 1, 1, 1, 99), 40);
        Check.due("the first of them at its time", facts.known(0, 1, 1, 1, 2), 20);
    }

    private static void full() {
        ToldFacts facts = Check.withDesks(1);
        facts.tell(0, 1, 1, 1, 10);
        facts.tell(0, 1, 1, 2, 10);
        Check.fill(facts, 0, 297);
        Check.due("the 300th", facts.correct(0, 0, 20), 8 * 299);
        Check.due("full", facts.correct(0, 8, 20), Check.FULL);
        Check.due("full: not known comes before it", facts.correct(0, 1, 20), Check.NONE);
        Check.due("full: not standing comes before it", facts.correct(0, 0, 20), Check.NONE);
        Check.due("full: no desk comes before it", facts.correct(1, 8, 20), Check.NONE);
        Check.due("the one still stands", facts.known(0, 1, 1, 2, 999), 10);
        Check.due("counts", facts.counts(0), 300);
    }

    /** One that stands at one desk is replaced at another, until the two are joined. */
    private static void ofAllThatItKnows() {
        ToldFacts facts = Check.withDesks(3);
        facts.tell(0, 1, 1, 1, 10);
        facts.join(1, 0);
        facts.join(2, 0);
        Check.due("at desk 1", facts.correct(1, 0, 20), 1);
        Check.due("at desk 2 it stands", facts.correct(2, 0, 30), 2);
        facts.join(0, 1);
        Check.due("at desk 0 it stood until the join", facts.correct(0, 0, 40), Check.NONE);
        Check.due("what came by joining stands", facts.correct(0, 1, 40), 8);
        Check.due("once", facts.correct(0, 1, 50), Check.NONE);
        Check.due("at desk 1 it still stands", facts.correct(1, 1, 60), 9);
    }

    private static void whatItDoesNotKnow() {
        ToldFacts facts = Check.withDesks(2);
        Check.due("when nothing was told", facts.correct(0, 0, 1), Check.NONE);
        facts.tell(1, 1, 1, 1, 10);
        Check.due("told at another desk", facts.correct(0, 1, 1), Check.NONE);
        Check.due("known there", facts.correct(1, 1, 11), 9);
        facts.batch(1);
        facts.tell(1, 1, 1, 1, 12);
        Check.due("in an open batch", facts.correct(1, 17, 1), Check.NONE);
        facts.endBatch(0);
        Check.due("in an ended one", facts.correct(1, 17, 13), 25);
        int[] none = {Integer.MIN_VALUE, -8, -7, -2, -1, 0, 2, 33, 2399, 2400, Integer.MAX_VALUE};
        for (int fact : none) {
            Check.due("never told: " + fact, facts.correct(1, fact, 1), Check.NONE);
        }
        Check.due("counts(0)", facts.counts(0), 0);
        Check.due("counts(1)", facts.counts(1), 4);
    }

    private static void whatDoesNotStand() {
        ToldFacts facts = Check.withDesks(1);
        facts.tell(0, 1, 1, 1, 10);
        facts.correct(0, 0, 11);
        Check.due("corrected", facts.correct(0, 0, 12), Check.NONE);
        facts.tell(0, 1, 1, 1, 13);
        Check.due("settled", facts.settle(0, 1, 1, 0), 24);
        Check.due("one of the settled", facts.correct(0, 8, 14), Check.NONE);
        Check.due("the other", facts.correct(0, 16, 14), Check.NONE);
        Check.due("the one that replaced them stands", facts.correct(0, 24, 15), 32);
        Check.due("and now does not", facts.correct(0, 24, 16), Check.NONE);
        Check.due("counts", facts.counts(0), 5);
    }

    /** The least number and the greatest that a fact may have. */
    private static void firstAndLastFact() {
        ToldFacts facts = Check.withDesks(8);
        facts.tell(7, 1, 1, 1, 1);
        Check.due("the first of desk 7", facts.correct(7, 7, 2), 15);
        Check.due("there is no 0", facts.correct(7, 0, 2), Check.NONE);
        for (int c = 2; c < 300; c++) {
            Check.due("correct", facts.correct(7, 8 * c - 1, c), 8 * c + 7);
        }
        Check.due("the 300th is 2,399", facts.find(7, 1, 299, 0), 2399);
        Check.due("it stands, but all is full", facts.correct(7, 2399, 1), Check.FULL);
        Check.due("the one before it does not stand", facts.correct(7, 2391, 1), Check.NONE);
        Check.due("there is no 2,400", facts.correct(7, 2400, 1), Check.NONE);
    }

    private static void refusedChangesNothing() {
        for (int desk : new int[] {Integer.MIN_VALUE, -1, 3, 8, Integer.MAX_VALUE}) {
            Twins.noEffect("correct at desk " + desk, Twins::few, Check.NONE, x -> x.correct(desk, 8, 1));
        }
        for (int fact : new int[] {Integer.MIN_VALUE, -8, -1, 2, 9, 24, 2399, 2400, Integer.MAX_VALUE}) {
            Twins.noEffect("correct of unknown " + fact, Twins::few, Check.NONE, x -> x.correct(0, fact, 1));
        }
        Twins.noEffect("correct of one that does not stand", Twins::few, Check.NONE, x -> x.correct(0, 0, 1));
        Twins.noEffect("correct of one in the open batch", Twins::few, Check.NONE, x -> x.correct(1, 9, 1));
    }

    private static void fullChangesNothing() {
        Twins.noEffect("correct when full", Twins::full, Check.FULL, x -> x.correct(0, 8, 1));
        Twins.noEffect("correct in a batch when full", Twins::full, Check.FULL, x -> x.correct(1, 1, 1));
        Twins.noEffect("correct of one replaced when full", Twins::full, Check.NONE, x -> x.correct(0, 0, 1));
        Twins.noEffect("correct of one unknown when full", Twins::full, Check.NONE, x -> x.correct(0, 2400, 1));
    }
}
