/** Promise 8: a conflict is settled with the value of one that stands, which replaces all. */
public final class SettleTest {
    public static void main(String[] args) {
        leastDayFirst();
        replacesAllThatStand();
        whichIsByNumbers();
        refusals();
        onlyThatThingAndKind();
        inABatch();
        settledAtTwoDesks();
        full();
        theLeastDayInConflict();
        whichFromZero();
        noSuchSpot();
        deskEdges();
        valuesAtTheEnds();
        refusedChangesNothing();
        fullChangesNothing();
        Check.end("SettleTest");
    }

    private static void leastDayFirst() {
        ToldFacts facts = Check.withDesks(1);
        int[] days = {30, 10, 20, 5};
        for (int day : days) {
            facts.tell(0, 1, 1, day, day);
        }
        facts.tell(0, 1, 1, 30, 31);
        facts.tell(0, 1, 1, 20, 21);
        Check.due("settle day 20", facts.settle(0, 1, 1, 1), 48);
        Check.due("known on day 20", facts.known(0, 1, 1, 20, 99), 21);
        Check.due("day 30 is left", facts.conflict(0, 0, 2), 30);
        Check.due("settle day 30", facts.settle(0, 1, 1, 0), 56);
        Check.due("known on day 30", facts.known(0, 1, 1, 30, 99), 30);
        Check.due("known on day 10", facts.known(0, 1, 1, 10, 99), 10);
        Check.due("no conflict is left", facts.settle(0, 1, 1, 0), Check.NONE);
        Check.due("what was known before", facts.known(0, 1, 1, 30, 7), 31);
    }

    private static void replacesAllThatStand() {
        ToldFacts facts = Check.withDesks(1);
        int told = 110;
        for (int c = 0; c < told; c++) {
            facts.tell(0, 1, 1, 0, c % 3);
        }
        Check.due("settle with the 6th", facts.settle(0, 1, 1, 5), 8 * told);
        Check.due("no conflict", facts.conflict(0, 0, 3), Check.NONE);
        for (int c = 0; c < told; c++) {
            Check.due("none of them stands", facts.correct(0, 8 * c, 9), Check.NONE);
        }
        Check.due("counts", facts.counts(0), told + 1);
        Check.due("known", facts.known(0, 1, 1, 0, told + 1), 2);
        Check.due("only the new one stands", facts.correct(0, 8 * told, 9), 8 * told + 8);
        Check.due("and is corrected", facts.known(0, 1, 1, 0, told + 2), 9);
    }

    private static void whichIsByNumbers() {
        ToldFacts facts = Check.withDesks(4);
        facts.tell(3, 1, 1, 1, 30);
        facts.tell(1, 1, 1, 1, 10);
        facts.tell(2, 1, 1, 1, 20);
        int[] from = {3, 2, 1};
        for (int desk : from) {
            facts.join(0, desk);
        }
        Check.due("which = 3", facts.settle(0, 1, 1, 3), Check.NONE);
        Check.due("which = 1", facts.settle(0, 1, 1, 1), 0);
        Check.due("known", facts.known(0, 1, 1, 1, 99), 20);
        Check.due("its time is 2", facts.known(0, 1, 1, 1, 1), 30);
    }

    private static void refusals() {
        ToldFacts facts = Check.withDesks(2);
        facts.tell(0, 1, 0, 1, 1);
        facts.tell(0, 1, 0, 1, 2);
        int[] wrong = {-1, 2, 8, Integer.MIN_VALUE, Integer.MAX_VALUE};
        for (int w : wrong) {
            Check.due("no desk " + w, facts.settle(w, 1, 0, 0), Check.NONE);
            Check.due("no fact " + w, facts.settle(0, 1, 0, w), Check.NONE);
            Check.due("no thing " + w, facts.settle(0, w, 0, 0), Check.NONE);
            Check.due("no kind " + w, facts.settle(0, 1, w, 0), Check.NONE);
        }
        Check.due("kind 10 of thing 0 is not kind 0 of thing 1", facts.settle(0, 0, 10, 0), Check.NONE);
        Check.due("kind -10 of thing 2 is not kind 0 of thing 1", facts.settle(0, 2, -10, 0), Check.NONE);
        Check.due("desk 1 has no conflict", facts.settle(1, 1, 0, 0), Check.NONE);
        Check.due("counts", facts.counts(0), 2);
        Check.due("the conflict is as it was", facts.conflict(0, 0, 3), 2);
        Check.due("settle", facts.settle(0, 1, 0, 0), 16);
        Check.due("its time is 3", facts.known(0, 1, 0, 1, 2), 2);
        Check.due("known", facts.known(0, 1, 0, 1, 3), 1);
    }

    private static void onlyThatThingAndKind() {
        ToldFacts facts = Check.withDesks(1);
        int[][] spots = {{0, 9, 100_000}, {1, 1, 50}, {1, 2, 0}, {99, 9, 100_000}};
        for (int[] spot : spots) {
            facts.tell(0, spot[0], spot[1], spot[2], 1);
            facts.tell(0, spot[0], spot[1], spot[2], 2);
        }
        Check.due("thing 1, kind 0", facts.settle(0, 1, 0, 0), Check.NONE);
        Check.due("thing 0, kind 8", facts.settle(0, 0, 8, 0), Check.NONE);
        Check.due("thing 98, kind 9", facts.settle(0, 98, 9, 0), Check.NONE);
        Check.due("thing 99, kind 9", facts.settle(0, 99, 9, 0), 64);
        Check.due("no fourth conflict", facts.conflict(0, 3, 0), Check.NONE);
        Check.due("thing 1, kind 1", facts.settle(0, 1, 1, 1), 72);
        Check.due("thing 1, kind 2 is left", facts.conflict(0, 1, 1), 2);
        Check.due("thing 0, kind 9", facts.settle(0, 0, 9, 0), 80);
        Check.due("one is left", facts.conflict(0, 0, 1), 2);
        Check.due("no more", facts.conflict(0, 1, 0), Check.NONE);
    }

    private static void inABatch() {
        ToldFacts facts = Check.withDesks(1);
        facts.tell(0, 1, 1, 1, 1);
        facts.tell(0, 1, 1, 1, 2);
        facts.batch(0);
        Check.due("settle", facts.settle(0, 1, 1, 0), 16);
        Check.due("it is not known: settle again", facts.settle(0, 1, 1, 1), 24);
        Check.due("the conflict is as it was", facts.conflict(0, 0, 3), 2);
        facts.endBatch(0);
        Check.due("now the two new ones stand", facts.conflict(0, 0, 3), 2);
        Check.due("the first", facts.conflict(0, 0, 4), 16);
        Check.due("the second", facts.conflict(0, 0, 5), 24);
        Check.due("known at 2", facts.known(0, 1, 1, 1, 2), 2);
        Check.due("known at 3", facts.known(0, 1, 1, 1, 3), 1);
    }

    private static void settledAtTwoDesks() {
        ToldFacts facts = Check.withDesks(2);
        facts.tell(0, 1, 1, 1, 1);
        facts.tell(0, 1, 1, 1, 2);
        facts.join(1, 0);
        facts.settle(0, 1, 1, 0);
        facts.settle(1, 1, 1, 0);
        Check.due("both with one value: no conflict", facts.join(0, 1), 0);
        facts.tell(1, 1, 1, 1, 5);
        Check.due("a new one is", facts.join(0, 1), 1);
        Check.due("three stand", facts.conflict(0, 0, 3), 3);
        Check.due("settle all three", facts.settle(0, 1, 1, 1), 24);
        Check.due("no conflict", facts.conflict(0, 0, 0), Check.NONE);
        Check.due("known: numbers 1, 9, 16", facts.known(0, 1, 1, 1, 99), 5);
    }

    private static void full() {
        ToldFacts facts = Check.withDesks(1);
        for (int v = 0; v < 2; v++) {
            facts.tell(0, 1, 1, 1, v);
            facts.tell(0, 1, 2, 1, v);
        }
        Check.fill(facts, 0, 295);
        Check.due("the 300th", facts.settle(0, 1, 1, 0), 8 * 299);
        Check.due("full", facts.settle(0, 1, 2, 0), Check.FULL);
        Check.due("the conflict is as it was", facts.conflict(0, 0, 3), 2);
        Check.due("full: no fact comes before it", facts.settle(0, 1, 2, 2), Check.NONE);
        Check.due("full: no spot comes before it", facts.settle(0, 1, 1, 0), Check.NONE);
        Check.due("full: no desk comes before it", facts.settle(1, 1, 2, 0), Check.NONE);
    }

    /** Days 0 and 100,000 among them; a lesser day where all say the same is in no conflict. */
    private static void theLeastDayInConflict() {
        ToldFacts facts = Check.withDesks(1);
        facts.tell(0, 1, 1, 100_000, 1);
        facts.tell(0, 1, 1, 100_000, 2);
        facts.tell(0, 1, 1, 50_000, 1);
        facts.tell(0, 1, 1, 50_000, 1);
        facts.tell(0, 1, 1, 99_999, 3);
        facts.tell(0, 1, 1, 0, 4);
        facts.tell(0, 1, 1, 0, 5);
        Check.due("day 0", facts.settle(0, 1, 1, 0), 56);
        Check.due("says 4", facts.known(0, 1, 1, 0, 99), 4);
        Check.due("the last day is left", facts.conflict(0, 0, 2), 100_000);
        Check.due("day 100,000", facts.settle(0, 1, 1, 1), 64);
        Check.due("says 2", facts.known(0, 1, 1, 100_000, 99), 2);
        Check.due("no day is left", facts.settle(0, 1, 1, 0), Check.NONE);
        Check.due("day 50,000 as before", facts.correct(0, 16, 9), 72);
        Check.due("now in conflict", facts.settle(0, 1, 1, 0), 80);
        Check.due("says 1, by number 24", facts.known(0, 1, 1, 50_000, 99), 1);
    }

    private static void whichFromZero() {
        int[] none = {Integer.MIN_VALUE, Integer.MIN_VALUE + 1, -2, -1, 3, 4, 299, 300, Integer.MAX_VALUE};
        for (int which = 0; which < 3; which++) {
            ToldFacts facts = Check.withDesks(1);
            for (int v = 0; v < 3; v++) {
                facts.tell(0, 1, 1, 1, 100 + v);
            }
            for (int wrong : none) {
                Check.due("which = " + wrong, facts.settle(0, 1, 1, wrong), Check.NONE);
            }
            Check.due("which = " + which, facts.settle(0, 1, 1, which), 24);
            Check.due("its value", facts.known(0, 1, 1, 1, 4), 100 + which);
        }
        ToldFacts facts = Check.withDesks(1);
        for (int c = 0; c < 299; c++) {
            facts.tell(0, 1, 1, 1, c);
        }
        Check.due("which = 299 of 299", facts.settle(0, 1, 1, 299), Check.NONE);
        Check.due("which = 298 of 299", facts.settle(0, 1, 1, 298), 8 * 299);
        Check.due("its value", facts.known(0, 1, 1, 1, 300), 298);
        Check.due("none is in conflict", facts.conflict(0, 0, 0), Check.NONE);
    }

    private static void noSuchSpot() {
        ToldFacts facts = Check.withDesks(2);
        Check.due("nothing was told", facts.settle(0, 0, 0, 0), Check.NONE);
        facts.tell(0, 1, 1, 1, 1);
        Check.due("one fact", facts.settle(0, 1, 1, 0), Check.NONE);
        facts.tell(0, 1, 1, 1, 1);
        Check.due("two that say the same", facts.settle(0, 1, 1, 0), Check.NONE);
        facts.tell(0, 1, 1, 2, 2);
        Check.due("another value of another day", facts.settle(0, 1, 1, 0), Check.NONE);
        facts.tell(1, 1, 1, 1, 3);
        Check.due("another value at another desk", facts.settle(0, 1, 1, 0), Check.NONE);
        facts.join(0, 1);
        int[] things = {Integer.MIN_VALUE, -1, 0, 2, 99, 100, Integer.MAX_VALUE};
        for (int thing : things) {
            Check.due("thing " + thing, facts.settle(0, thing, 1, 0), Check.NONE);
        }
        int[] kinds = {Integer.MIN_VALUE, -9, -1, 0, 2, 9, 10, 11, Integer.MAX_VALUE};
        for (int kind : kinds) {
            Check.due("kind " + kind, facts.settle(0, 1, kind, 0), Check.NONE);
        }
        Check.due("thing 0, kind 11", facts.settle(0, 0, 11, 0), Check.NONE);
        Check.due("thing 2, kind -9", facts.settle(0, 2, -9, 0), Check.NONE);
        Check.due("thing 1, kind 1", facts.settle(0, 1, 1, 0), 24);
    }

    private static void deskEdges() {
        ToldFacts facts = Check.withDesks(8);
        facts.tell(7, 1, 1, 1, 1);
        facts.tell(7, 1, 1, 1, 2);
        int[] none = {Integer.MIN_VALUE, -1, 0, 6, 8, Integer.MAX_VALUE};
        for (int desk : none) {
            Check.due("at desk " + desk, facts.settle(desk, 1, 1, 0), Check.NONE);
        }
        Check.due("at desk 7", facts.settle(7, 1, 1, 0), 23);
        Check.due("at time 3", facts.known(7, 1, 1, 1, 3), 1);
        Check.due("at time 2", facts.known(7, 1, 1, 1, 2), 2);
    }

    private static void valuesAtTheEnds() {
        long[] ends = {Long.MIN_VALUE, Long.MAX_VALUE};
        for (int which = 0; which < 2; which++) {
            ToldFacts facts = Check.withDesks(1);
            facts.tell(0, 1, 1, 1, ends[0]);
            facts.tell(0, 1, 1, 1, ends[1]);
            Check.due("settle", facts.settle(0, 1, 1, which), 16);
            Check.due("known", facts.known(0, 1, 1, 1, 3), ends[which]);
        }
    }

    private static void refusedChangesNothing() {
        for (int desk : new int[] {Integer.MIN_VALUE, -1, 3, 8, Integer.MAX_VALUE}) {
            Twins.noEffect("settle at desk " + desk, Twins::few, Check.NONE, x -> x.settle(desk, 1, 1, 0));
        }
        for (int thing : new int[] {Integer.MIN_VALUE, -1, 0, 2, 100, Integer.MAX_VALUE}) {
            Twins.noEffect("settle of thing " + thing, Twins::few, Check.NONE, x -> x.settle(0, thing, 1, 0));
        }
        for (int kind : new int[] {Integer.MIN_VALUE, -1, 0, 2, 10, Integer.MAX_VALUE}) {
            Twins.noEffect("settle of kind " + kind, Twins::few, Check.NONE, x -> x.settle(0, 1, kind, 0));
        }
        for (int which : new int[] {Integer.MIN_VALUE, -1, 2, Integer.MAX_VALUE}) {
            Twins.noEffect("settle with fact " + which, Twins::few, Check.NONE, x -> x.settle(0, 1, 1, which));
        }
    }

    private static void fullChangesNothing() {
        Twins.noEffect("settle when full", Twins::full, Check.FULL, x -> x.settle(0, 1, 1, 0));
        Twins.noEffect("settle in a batch when full", Twins::full, Check.FULL, x -> x.settle(1, 1, 1, 0));
        Twins.noEffect("settle of no spot when full", Twins::full, Check.NONE, x -> x.settle(0, 9, 9, 0));
        Twins.noEffect("settle with no fact when full", Twins::full, Check.NONE, x -> x.settle(0, 1, 1, 300));
        Twins.noEffect("settle at no desk when full", Twins::full, Check.NONE, x -> x.settle(8, 1, 1, 0));
    }
}
