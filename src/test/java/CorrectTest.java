/** Promise 4: a correction replaces one standing fact that is known, and keeps it. */
public final class CorrectTest {
    public static void main(String[] args) {
        oldOnesAreKept();
        refusals();
        oneFactCorrectedAtTwoDesks();
        sameValueIsTaken();
        inABatch();
        full();
        Check.end("CorrectTest");
    }

    private static void oldOnesAreKept() {
        ToldFacts facts = Check.withDesks(1);
        facts.tell(0, 3, 4, 5, 10);
        Check.due("correct", facts.correct(0, 0, 20), 8);
        Check.due("correct again", facts.correct(0, 8, 30), 16);
        Check.due("known at 1", facts.known(0, 3, 4, 5, 1), 10);
        Check.due("known at 2", facts.known(0, 3, 4, 5, 2), 20);
        Check.due("known at 3", facts.known(0, 3, 4, 5, 3), 30);
        Check.due("known a day before", facts.known(0, 3, 4, 4, 3), Check.NOTHING);
        Check.due("known of another kind", facts.known(0, 3, 3, 5, 3), Check.NOTHING);
        Check.due("counts", facts.counts(0), 3);
        Check.due("no conflict", facts.conflict(0, 0, 0), Check.NONE);
        Check.due("find the first", facts.find(0, 4, 10, 0), 0);
    }

    private static void refusals() {
        ToldFacts facts = Check.withDesks(2);
        facts.tell(0, 3, 4, 5, 10);
        facts.tell(1, 3, 4, 5, 11);
        int[] desks = {-1, 2, Integer.MIN_VALUE, Integer.MAX_VALUE};
        for (int desk : desks) {
            Check.due("no desk " + desk, facts.correct(desk, 0, 1), Check.NONE);
        }
        int[] unknown = {-8, -1, 1, 2, 8, 2399, 2400, Integer.MIN_VALUE, Integer.MAX_VALUE};
        for (int fact : unknown) {
            Check.due("unknown " + fact, facts.correct(0, fact, 1), Check.NONE);
        }
        Check.due("correct(0, 0)", facts.correct(0, 0, 12), 8);
        Check.due("does not stand", facts.correct(0, 0, 13), Check.NONE);
        Check.due("counts", facts.counts(0), 2);
        Check.due("known at 2", facts.known(0, 3, 4, 5, 2), 12);
        Check.due("the number and time after it", facts.correct(0, 8, 14), 16);
        Check.due("known at 3", facts.known(0, 3, 4, 5, 3), 14);
    }

    /** What stands is a matter of what that desk knows. */
    private static void oneFactCorrectedAtTwoDesks() {
        ToldFacts facts = Check.withDesks(3);
        facts.tell(0, 1, 1, 1, 10);
        facts.join(1, 0);
        Check.due("at desk 0", facts.correct(0, 0, 20), 8);
        Check.due("at desk 1, where it still stands", facts.correct(1, 0, 30), 1);
        Check.due("join", facts.join(0, 1), 1);
        Check.due("two stand", facts.conflict(0, 0, 3), 2);
        Check.due("one of them", facts.conflict(0, 0, 4), 1);
        Check.due("the other", facts.conflict(0, 0, 5), 8);
        Check.due("correct one", facts.correct(0, 1, 20), 16);
        Check.due("both say 20: no conflict", facts.conflict(0, 0, 0), Check.NONE);
        Check.due("times are those of the desks: known at 2", facts.known(0, 1, 1, 1, 2), 20);
        Check.due("desk 2 knows none", facts.correct(2, 16, 1), Check.NONE);
    }

    private static void sameValueIsTaken() {
        ToldFacts facts = Check.withDesks(1);
        facts.tell(0, 1, 1, 1, 10);
        Check.due("the same value", facts.correct(0, 0, 10), 8);
        Check.due("the first does not stand", facts.correct(0, 0, 11), Check.NONE);
    }

    private static void inABatch() {
        ToldFacts facts = Check.withDesks(1);
        facts.tell(0, 1, 1, 1, 10);
        facts.batch(0);
        Check.due("correct in the batch", facts.correct(0, 0, 20), 8);
        Check.due("it is not known", facts.correct(0, 8, 30), Check.NONE);
        Check.due("so the first stands", facts.known(0, 1, 1, 1, 99), 10);
        Check.due("and can be corrected", facts.correct(0, 0, 40), 16);
        facts.endBatch(0);
        Check.due("now it does not stand", facts.correct(0, 0, 50), Check.NONE);
        Check.due("the two are in conflict", facts.conflict(0, 0, 3), 2);
        Check.due("the second is later", facts.known(0, 1, 1, 1, 99), 40);
        Check.due("the first of them at its time", facts.known(0, 1, 1, 1, 2), 20);
    }

    private static void full() {
        ToldFacts facts = Check.withDesks(1);
        facts.tell(0, 1, 1, 1, 10);
        facts.tell(0, 1, 1, 2, 10);
        Check.fill(facts, 0, 297);
        Check.due("the 300th", facts.correct(0, 0, 20), 8 * 299);
        Check.due("full", facts.correct(0, 8, 20), Check.FULL);
        Check.due("full: not known comes before it", facts.correct(0, 1, 20), Check.NONE);
        Check.due("full: not standing comes before it", facts.correct(0, 0, 20), Check.NONE);
        Check.due("full: no desk comes before it", facts.correct(1, 8, 20), Check.NONE);
        Check.due("the one still stands", facts.known(0, 1, 1, 2, 999), 10);
        Check.due("counts", facts.counts(0), 300);
    }
}
