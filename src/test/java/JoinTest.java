/** Promise 5: what a join brings, its clock, its answer, and what it refuses. */
public final class JoinTest {
    public static void main(String[] args) {
        oneWay();
        clocks();
        answerCountsSpots();
        anyOrder();
        bringsNoOpenBatch();
        joinedFactsPassOpenBatch();
        refusals();
        Check.end("JoinTest");
    }

    private static void oneWay() {
        ToldFacts facts = Check.withDesks(3);
        facts.tell(0, 1, 1, 1, 10);
        facts.tell(1, 2, 1, 1, 20);
        Check.due("join(0, 1)", facts.join(0, 1), 0);
        Check.due("counts(0)", facts.counts(0), 2);
        Check.due("counts(1)", facts.counts(1), 1);
        Check.due("join(2, 0) brings what came by joining", facts.join(2, 0), 0);
        Check.due("counts(2)", facts.counts(2), 2);
        Check.due("known(2)", facts.known(2, 2, 1, 1, 9), 20);
        Check.due("join again", facts.join(2, 0), 0);
        Check.due("counts(2)", facts.counts(2), 2);
    }

    private static void clocks() {
        ToldFacts facts = Check.withDesks(2);
        Check.fill(facts, 0, 5);
        facts.join(1, 0);
        facts.tell(1, 0, 0, 0, 61);
        Check.due("time 6 comes after 5", facts.known(1, 0, 0, 0, 5), Check.NOTHING);
        Check.due("at 6", facts.known(1, 0, 0, 0, 6), 61);
        facts.tell(0, 1, 0, 0, 60);
        facts.tell(0, 1, 0, 0, 70);
        facts.join(0, 1);
        facts.tell(0, 2, 0, 0, 80);
        Check.due("a lesser clock changes none: at 7", facts.known(0, 2, 0, 0, 7), Check.NOTHING);
        Check.due("at 8", facts.known(0, 2, 0, 0, 8), 80);
        facts.join(1, 0);
        facts.tell(1, 3, 0, 0, 90);
        Check.due("the greater clock: at 8", facts.known(1, 3, 0, 0, 8), Check.NOTHING);
        Check.due("at 9", facts.known(1, 3, 0, 0, 9), 90);
    }

    private static void answerCountsSpots() {
        ToldFacts facts = Check.withDesks(3);
        for (int desk = 0; desk < 3; desk++) {
            facts.tell(desk, 1, 1, 1, desk);
            facts.tell(desk, 1, 1, 2, 5);
            facts.tell(desk, 1, 2, 1, desk);
            facts.tell(desk, 2, 1, 1, desk / 2);
        }
        Check.due("join(0, 1): the same values are no conflict", facts.join(0, 1), 2);
        Check.due("join(0, 2)", facts.join(0, 2), 3);
        facts.tell(1, 0, 0, 0, 1);
        facts.tell(1, 0, 0, 0, 2);
        Check.due("join(1, 2): also its own conflict", facts.join(1, 2), 4);
    }

    private static void anyOrder() {
        ToldFacts facts = Check.withDesks(4);
        facts.tell(0, 1, 1, 1, 1);
        facts.join(1, 0);
        facts.correct(1, 0, 2);
        facts.correct(0, 0, 3);
        facts.tell(2, 1, 1, 1, 4);
        facts.join(3, 0);
        facts.join(3, 1);
        facts.join(3, 2);
        facts.join(2, 1);
        facts.join(2, 0);
        Check.due("equal(2, 3)", facts.equal(2, 3), true);
        for (int what = 0; what < 8; what++) {
            Check.due("conflict " + what, facts.conflict(2, 0, what), facts.conflict(3, 0, what));
        }
        Check.due("how many stand", facts.conflict(2, 0, 3), 3);
    }

    private static void bringsNoOpenBatch() {
        ToldFacts facts = Check.withDesks(2);
        facts.batch(0);
        facts.tell(0, 1, 1, 1, 1);
        facts.tell(0, 1, 1, 1, 2);
        Check.due("join(1, 0)", facts.join(1, 0), 0);
        Check.due("counts(1)", facts.counts(1), 0);
        facts.tell(1, 1, 1, 1, 3);
        Check.due("but the clock: at 2", facts.known(1, 1, 1, 1, 2), Check.NOTHING);
        Check.due("at 3", facts.known(1, 1, 1, 1, 3), 3);
        facts.endBatch(0);
        Check.due("join(1, 0) after it", facts.join(1, 0), 1);
        Check.due("counts(1)", facts.counts(1), 3);
    }

    private static void joinedFactsPassOpenBatch() {
        ToldFacts facts = Check.withDesks(2);
        facts.tell(1, 1, 1, 1, 1);
        facts.batch(0);
        Check.due("join(0, 1)", facts.join(0, 1), 0);
        Check.due("known at once", facts.counts(0), 1);
        Check.due("correct in the batch", facts.correct(0, 1, 2), 0);
        Check.due("is not known", facts.counts(0), 1);
    }

    private static void refusals() {
        ToldFacts facts = Check.withDesks(2);
        facts.tell(0, 1, 1, 1, 1);
        int[] wrong = {-1, 2, 8, Integer.MIN_VALUE, Integer.MAX_VALUE};
        for (int desk : wrong) {
            Check.due("join(0, " + desk + ")", facts.join(0, desk), Check.NONE);
            Check.due("join(" + desk + ", 0)", facts.join(desk, 0), Check.NONE);
            Check.due("join of one none", facts.join(desk, desk), Check.NONE);
        }
        Check.due("join(0, 0)", facts.join(0, 0), Check.NONE);
        Check.due("join(1, 1)", facts.join(1, 1), Check.NONE);
        Check.due("counts(1)", facts.counts(1), 0);
        Check.due("tell", facts.tell(1, 1, 1, 1, 2), 1);
        Check.due("its time is 1", facts.known(1, 1, 1, 1, 1), 2);
    }
}
