/** Promise 5: what a join brings, its clock, its answer, and what it refuses. */
public final class JoinTest {
    public static void main(String[] args) {
        oneWay();
        clocks();
        answerCountsSpots();
        anyOrder();
        bringsNoOpenBatch();
        joinedFactsPassOpenBatch();
        refusals();
        clockBecomesTheGreater();
        clockOfAnOpenBatch();
        emptyDesks();
        mostSpotsInConflict();
        whenAllIsFull();
        refusedChangesNothing();
        Check.end("JoinTest");
    }

    private static void oneWay() {
        ToldFacts facts = Check.withDesks(3);
        facts.tell(0, 1, 1, 1, 10);
        facts.tell(1, 2, 1, 1, 20);
        Check.due("join(0, 1)", facts.join(0, 1), 0);
        Check.due("counts(0)", facts.counts(0), 2);
        Check.due("counts(1)", facts.counts(1), 1);
        Check.due("join(2, 0) brings what came by joining", facts.join(2, 0), 0);
        Check.due("counts(2)", facts.counts(2), 2);
        Check.due("known(2)", facts.known(2, 2, 1, 1, 9), 20);
        Check.due("join again", facts.join(2, 0), 0);
        Check.due("counts(2)", facts.counts(2), 2);
    }

    private static void clocks() {
        ToldFacts facts = Check.withDesks(2);
        Check.fill(facts, 0, 5);
        facts.join(1, 0);
        facts.tell(1, 0, 0, 0, 61);
        Check.due("time 6 comes after 5", facts.known(1, 0, 0, 0, 5), Check.NOTHING);
        Check.due("at 6", facts.known(1, 0, 0, 0, 6), 61);
        facts.tell(0, 1, 0, 0, 60);
        facts.tell(0, 1, 0, 0, 70);
        facts.join(0, 1);
        facts.tell(0, 2, 0, 0, 80);
        Check.due("a lesser clock changes none: at 7", facts.known(0, 2, 0, 0, 7), Check.NOTHING);
        Check.due("at 8", facts.known(0, 2, 0, 0, 8), 80);
        facts.join(1, 0);
        facts.tell(1, 3, 0, 0, 90);
        Check.due("the greater clock: at 8", facts.known(1, 3, 0, 0, 8), Check.NOTHING);
        Check.due("at 9", facts.known(1, 3, 0, 0, 9), 90);
    }

    private static void answerCountsSpots() {
        ToldFacts facts = Check.withDesks(3);
        for (int desk = 0; desk < 3; desk++) {
            facts.tell(desk, 1, 1, 1, desk);
            facts.tell(desk, 1, 1, 2, 5);
            facts.tell(desk, 1, 2, 1, desk);
            facts.tell(desk, 2, 1, 1, desk / 2);
        }
        Check.due("join(0, 1): the same values are no conflict", facts.join(0, 1), 2);
        Check.due("join(0, 2)", facts.join(0, 2), 3);
        facts.tell(1, 0, 0, 0, 1);
        facts.tell(1, 0, 0, 0, 2);
        Check.due("join(1, 2): also its own conflict", facts.join(1, 2), 4);
    }

    private static void anyOrder() {
        ToldFacts facts = Check.withDesks(4);
        facts.tell(0, 1, 1, 1, 1);
        facts.join(1, 0);
        facts.correct(1, 0, 2);
        facts.correct(0, 0, 3);
        facts.tell(2, 1, 1, 1, 4);
        facts.join(3, 0);
        facts.join(3, 1);
        facts.join(3, 2);
        facts.join(2, 1);
        facts.join(2, 0);
        Check.due("equal(2, 3)", facts.equal(2, 3), true);
        for (int what = 0; what < 8; what++) {
            Check.due("conflict " + what, facts.conflict(2, 0, what), facts.conflict(3, 0, what));
        }
        Check.due("how many stand", facts.conflict(2, 0, 3), 3);
    }

    private static void bringsNoOpenBatch() {
        ToldFacts facts = Check.withDesks(2);
        facts.batch(0);
        facts.tell(0, 1, 1, 1, 1);
        facts.tell(0, 1, 1, 1, 2);
        Check.due("join(1, 0)", facts.join(1, 0), 0);
        Check.due("counts(1)", facts.counts(1), 0);
        facts.tell(1, 1, 1, 1, 3);
        Check.due("but the clock: at 2", facts.known(1, 1, 1, 1, 2), Check.NOTHING);
        Check.due("at 3", facts.known(1, 1, 1, 1, 3), 3);
        facts.endBatch(0);
        Check.due("join(1, 0) after it", facts.join(1, 0), 1);
        Check.due("counts(1)", facts.counts(1), 3);
    }

    private static void joinedFactsPassOpenBatch() {
        ToldFacts facts = Check.withDesks(2);
        facts.tell(1, 1, 1, 1, 1);
        facts.batch(0);
        Check.due("join(0, 1)", facts.join(0, 1), 0);
        Check.due("known at once", facts.counts(0), 1);
        Check.due("correct in the batch", facts.correct(0, 1, 2), 0);
        Check.due("is not known", facts.counts(0), 1);
    }

    private static void refusals() {
        ToldFacts facts = Check.withDesks(2);
        facts.tell(0, 1, 1, 1, 1);
        int[] wrong = {-1, 2, 8, Integer.MIN_VALUE, Integer.MAX_VALUE};
        for (int desk : wrong) {
            Check.due("join(0, " + desk + ")", facts.join(0, desk), Check.NONE);
            Check.due("join(" + desk + ", 0)", facts.join(desk, 0), Check.NONE);
            Check.due("join of one none", facts.join(desk, desk), Check.NONE);
        }
        Check.due("join(0, 0)", facts.join(0, 0), Check.NONE);
        Check.due("join(1, 1)", facts.join(1, 1), Check.NONE);
        Check.due("counts(1)", facts.counts(1), 0);
        Check.due("tell", facts.tell(1, 1, 1, 1, 2), 1);
        Check.due("its time is 1", facts.known(1, 1, 1, 1, 1), 2);
    }

    /** The other one's clock is one less, the same, one more. */
    private static void clockBecomesTheGreater() {
        for (int more = -1; more <= 1; more++) {
            ToldFacts facts = Check.withDesks(2);
            Check.fill(facts, 0, 4);
            for (int c = 0; c < 4 + more; c++) {
                facts.tell(1, 98, 9, c, 7);
            }
            Check.due("join(0, 1)", facts.join(0, 1), 0);
            facts.tell(0, 1, 1, 1, 1);
            Check.due("the next time", Check.timeOf(facts, 0, 1, 1, 1), Math.max(4, 4 + more) + 1);
            facts.tell(1, 1, 1, 1, 1);
            Check.due("the other's clock goes on by itself", Check.timeOf(facts, 1, 1, 1, 1), 4 + more + 1);
        }
    }

    private static void clockOfAnOpenBatch() {
        ToldFacts facts = Check.withDesks(3);
        facts.batch(0);
        Check.fill(facts, 0, 3);
        Check.fill(facts, 1, 5);
        Check.due("join into the batch's desk", facts.join(0, 1), 0);
        facts.tell(0, 1, 1, 1, 1);
        Check.due("join from it", facts.join(2, 0), 0);
        facts.tell(2, 2, 2, 2, 2);
        Check.due("time 7 after 6", Check.timeOf(facts, 2, 2, 2, 2), 7);
        facts.endBatch(0);
        Check.due("time 6 after 5", Check.timeOf(facts, 0, 1, 1, 1), 6);
    }

    private static void emptyDesks() {
        ToldFacts facts = Check.withDesks(3);
        Check.due("two that know nothing", facts.join(0, 1), 0);
        Check.due("counts(0)", facts.counts(0), 0);
        facts.tell(0, 1, 1, 1, 1);
        facts.tell(0, 1, 1, 1, 2);
        Check.due("with one that knows nothing: its own conflict", facts.join(0, 1), 1);
        Check.due("counts(0)", facts.counts(0), 2);
        Check.due("one that knows nothing", facts.join(1, 0), 1);
        Check.due("counts(1)", facts.counts(1), 2);
        Check.due("equal(0, 1)", facts.equal(0, 1), true);
    }

    private static void mostSpotsInConflict() {
        ToldFacts facts = Check.withDesks(8);
        for (int spot = 0; spot < 150; spot++) {
            facts.tell(0, spot % 100, spot / 100, 100_000, 1);
            facts.tell(7, spot % 100, spot / 100, 100_000, 2);
        }
        Check.due("150 spots", facts.join(7, 0), 150);
        Check.due("300 facts", facts.counts(7), 300);
        Check.due("the other as before", facts.counts(0), 150);
        Check.due("back", facts.join(0, 7), 150);
        Check.due("again", facts.join(0, 7), 150);
    }

    private static void whenAllIsFull() {
        ToldFacts facts = Check.withDesks(2);
        Check.fill(facts, 0, 300);
        Check.due("full", facts.tell(1, 1, 1, 1, 1), Check.FULL);
        Check.due("a join is never FULL", facts.join(1, 0), 0);
        Check.due("counts(1)", facts.counts(1), 300);
    }

    private static void refusedChangesNothing() {
        for (int desk : new int[] {Integer.MIN_VALUE, -1, 3, 8, Integer.MAX_VALUE}) {
            Twins.noEffect("join(0, " + desk + ")", Twins::few, Check.NONE, x -> x.join(0, desk));
            Twins.noEffect("join(" + desk + ", 0)", Twins::few, Check.NONE, x -> x.join(desk, 0));
            Twins.noEffect("join of one none with itself", Twins::few, Check.NONE, x -> x.join(desk, desk));
        }
        for (int desk = 0; desk < 3; desk++) {
            int one = desk;
            Twins.noEffect("join of one with itself", Twins::few, Check.NONE, x -> x.join(one, one));
        }
        Twins.noEffect("join of one with itself when full", Twins::full, Check.NONE, x -> x.join(7, 7));
        Twins.noEffect("join with desk 8 when full", Twins::full, Check.NONE, x -> x.join(7, 8));
    }
}
