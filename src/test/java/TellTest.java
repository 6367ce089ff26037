/** Promise 3: numbers, times, the edges of a spot, what is refused, and 300 facts at most. */
public final class TellTest {
    public static void main(String[] args) {
        numbersAndTimes();
        edgesOfTheSpot();
        wrongInputs();
        anyValue();
        fullAtAllDesksTogether();
        theLastNumber();
        fullCountsFactsOfABatch();
        noneComesBeforeFull();
        refusedChangesNothing();
        fullChangesNothing();
        Check.end("TellTest");
    }

    private static void numbersAndTimes() {
        ToldFacts facts = Check.withDesks(8);
        for (int c = 0; c < 3; c++) {
            for (int desk = 0; desk < 8; desk++) {
                Check.due("tell", facts.tell(desk, desk, 0, 0, 10 * c + desk), 8 * c + desk);
            }
        }
        for (int desk = 0; desk < 8; desk++) {
            Check.due("known at 0", facts.known(desk, desk, 0, 0, 0), Check.NOTHING);
            Check.due("known at 1", facts.known(desk, desk, 0, 0, 1), desk);
            Check.due("known at 2", facts.known(desk, desk, 0, 0, 2), 10 + desk);
            Check.due("known at 3", facts.known(desk, desk, 0, 0, 3), 20 + desk);
            Check.due("counts", facts.counts(desk), 3);
        }
    }

    private static void edgesOfTheSpot() {
        ToldFacts facts = Check.withDesks(1);
        Check.due("least spot", facts.tell(0, 0, 0, 0, 1), 0);
        Check.due("greatest spot", facts.tell(0, 99, 9, 100_000, 2), 8);
        Check.due("known at the least", facts.known(0, 0, 0, 0, 9), 1);
        Check.due("known at the greatest", facts.known(0, 99, 9, 100_000, 9), 2);
        Check.due("known a day before", facts.known(0, 99, 9, 99_999, 9), Check.NOTHING);
        Check.due("other value at the least", facts.tell(0, 0, 0, 0, 3), 16);
        Check.due("other value at the greatest", facts.tell(0, 99, 9, 100_000, 3), 24);
        Check.due("first conflict: day", facts.conflict(0, 0, 2), 0);
        Check.due("second conflict: thing", facts.conflict(0, 1, 0), 99);
        Check.due("second conflict: kind", facts.conflict(0, 1, 1), 9);
        Check.due("second conflict: day", facts.conflict(0, 1, 2), 100_000);
        Check.due("no third", facts.conflict(0, 2, 0), Check.NONE);
    }

    private static void wrongInputs() {
        ToldFacts facts = Check.withDesks(2);
        int[] wrongDesks = {-1, 2, 8, Integer.MIN_VALUE, Integer.MAX_VALUE};
        for (int desk : wrongDesks) {
            Check.due("tell, desk " + desk, facts.tell(desk, 0, 0, 0, 0), Check.NONE);
        }
        int[] wrongThings = {-1, 100, Integer.MIN_VALUE, Integer.MAX_VALUE};
        for (int thing : wrongThings) {
            Check.due("tell, thing " + thing, facts.tell(0, thing, 0, 0, 0), Check.NONE);
        }
        int[] wrongKinds = {-1, 10, Integer.MIN_VALUE, Integer.MAX_VALUE};
        for (int kind : wrongKinds) {
            Check.due("tell, kind " + kind, facts.tell(0, 0, kind, 0, 0), Check.NONE);
        }
        long[] wrongDays = {-1, 100_001, 1L << 32, (1L << 32) + 5, Long.MIN_VALUE, Long.MAX_VALUE};
        for (long day : wrongDays) {
            Check.due("tell, day " + day, facts.tell(0, 0, 0, day, 0), Check.NONE);
        }
        Check.due("counts(0)", facts.counts(0), 0);
        Check.due("the first that is not refused", facts.tell(0, 0, 0, 0, 4), 0);
        Check.due("its time is 1", facts.known(0, 0, 0, 0, 1), 4);
    }

    private static void anyValue() {
        ToldFacts facts = Check.withDesks(1);
        long[] values = {0, -1, 1L << 40, Long.MAX_VALUE, Long.MIN_VALUE};
        for (int c = 0; c < values.length; c++) {
            Check.due("tell", facts.tell(0, c, 0, 0, values[c]), 8 * c);
            Check.due("known", facts.known(0, c, 0, 0, 99), values[c]);
            Check.due("find", facts.find(0, 0, values[c], 0), 8 * c);
        }
    }

    private static void fullAtAllDesksTogether() {
        ToldFacts facts = Check.withDesks(8);
        for (int c = 0; c < 300; c++) {
            Check.due("tell", facts.tell(c % 8, 1, 1, 1, 1), 8 * (c / 8) + c % 8);
        }
        for (int desk = 0; desk < 8; desk++) {
            Check.due("tell when full", facts.tell(desk, 1, 1, 1, 1), Check.FULL);
            Check.due("counts", facts.counts(desk), desk < 4 ? 38 : 37);
        }
    }

    private static void theLastNumber() {
        ToldFacts facts = Check.withDesks(8);
        for (int c = 0; c < 299; c++) {
            facts.tell(7, 1, 1, 1, 1);
        }
        Check.due("the 300th", facts.tell(7, 1, 1, 1, 5), 2399);
        Check.due("the 301st", facts.tell(7, 1, 1, 1, 6), Check.FULL);
        Check.due("the 301st elsewhere", facts.tell(0, 1, 1, 1, 6), Check.FULL);
        Check.due("known at 299", facts.known(7, 1, 1, 1, 299), 1);
        Check.due("known at 300", facts.known(7, 1, 1, 1, 300), 5);
        Check.due("known at 301", facts.known(7, 1, 1, 1, 301), 5);
        Check.due("find the last", facts.find(7, 1, 5, 0), 2399);
    }

    private static void fullCountsFactsOfABatch() {
        ToldFacts facts = Check.withDesks(2);
        facts.batch(0);
        Check.fill(facts, 0, 299);
        Check.due("the 300th", facts.tell(1, 0, 0, 0, 0), 1);
        Check.due("the 301st", facts.tell(1, 0, 0, 0, 0), Check.FULL);
        Check.due("the 301st in the batch", facts.tell(0, 0, 0, 0, 0), Check.FULL);
        Check.due("endBatch(0)", facts.endBatch(0), true);
        Check.due("counts(0)", facts.counts(0), 299);
    }

    private static void noneComesBeforeFull() {
        ToldFacts facts = Check.withDesks(1);
        Check.fill(facts, 0, 300);
        Check.due("full", facts.tell(0, 0, 0, 0, 0), Check.FULL);
        Check.due("no desk", facts.tell(1, 0, 0, 0, 0), Check.NONE);
        Check.due("no thing", facts.tell(0, 100, 0, 0, 0), Check.NONE);
        Check.due("no kind", facts.tell(0, 0, 10, 0, 0), Check.NONE);
        Check.due("no day", facts.tell(0, 0, 0, 100_001, 0), Check.NONE);
    }

    private static void refusedChangesNothing() {
        for (int desk : new int[] {Integer.MIN_VALUE, -1, 3, 8, Integer.MAX_VALUE}) {
            Twins.noEffect("tell at desk " + desk, Twins::few, Check.NONE, x -> x.tell(desk, 1, 1, 5, 1));
        }
        for (int thing : new int[] {Integer.MIN_VALUE, -1, 100, Integer.MAX_VALUE}) {
            Twins.noEffect("tell of thing " + thing, Twins::few, Check.NONE, x -> x.tell(0, thing, 1, 5, 1));
        }
        for (int kind : new int[] {Integer.MIN_VALUE, -1, 10, Integer.MAX_VALUE}) {
            Twins.noEffect("tell of kind " + kind, Twins::few, Check.NONE, x -> x.tell(0, 1, kind, 5, 1));
        }
        for (long day : new long[] {Long.MIN_VALUE, -1, 100_001, (1L << 32) + 5, Long.MAX_VALUE}) {
            Twins.noEffect("tell of day " + day, Twins::few, Check.NONE, x -> x.tell(0, 1, 1, day, 1));
        }
        Twins.noEffect("tell, refused, in a batch", Twins::few, Check.NONE, x -> x.tell(1, 100, 1, 5, 1));
    }

    private static void fullChangesNothing() {
        for (int desk = 0; desk < 8; desk++) {
            int at = desk;
            Twins.noEffect("tell at desk " + at + " when full", Twins::full, Check.FULL, x -> x.tell(at, 1, 1, 1, 1));
        }
        Twins.noEffect("tell at desk 8 when full", Twins::full, Check.NONE, x -> x.tell(8, 1, 1, 1, 1));
    }
}
