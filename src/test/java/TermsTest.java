/** The document's 'Terms': how many desks, things, kinds, days and facts there are; numbers, clocks, batches. */
public final class TermsTest {
    private static final int[] NO_THINGS = {Integer.MIN_VALUE, Integer.MIN_VALUE + 1, -1, 100, 101, Integer.MAX_VALUE};
    private static final int[] NO_KINDS = {Integer.MIN_VALUE, Integer.MIN_VALUE + 1, -1, 10, 11, Integer.MAX_VALUE};
    private static final long[] NO_DAYS = {
        Long.MIN_VALUE, Long.MIN_VALUE + 1, Integer.MIN_VALUE, -(1L << 32), -1, 100_001, 100_002, Integer.MAX_VALUE,
        1L << 32, (1L << 32) + 100_000, Long.MAX_VALUE};

    public static void main(String[] args) {
        atMostEightDesks();
        thingsFrom0To99();
        kindsFrom0To9();
        daysFrom0To100000();
        numbersAreEightTimesPlusDesk();
        threeHundredFactsByTelling();
        threeHundredFactsByCorrecting();
        threeHundredFactsBySettling();
        threeHundredFactsInOpenBatches();
        threeHundredFactsByPlaying();
        joiningMakesNoFacts();
        aClockIs0AtFirst();
        aFactMovesTheClockByOne();
        factsOfABatchAreKnownFromItsEndOn();
        aDeskKnowsWhatWasToldThereAndWhatCame();
        aFactReplacesFactsOfItsSpot();
        aFactStandsWhenNoneReplacesIt();
        aSpotIsInConflictByWhatStands();
        Check.end("TermsTest");
    }

    private static void atMostEightDesks() {
        ToldFacts facts = Check.withDesks(7);
        Check.due("desk 7 is not yet one", facts.tell(7, 0, 0, 0, 0), Check.NONE);
        Check.due("the eighth", facts.desk(), 7);
        Check.due("desk 7 is one", facts.tell(7, 0, 0, 0, 0), 7);
        Check.due("the ninth", facts.desk(), Check.FULL);
        Check.due("desk 8 is none", facts.tell(8, 0, 0, 0, 0), Check.NONE);
        Check.due("desk 0 is one", facts.tell(0, 0, 0, 0, 0), 0);
        Check.due("desk -1 is none", facts.tell(-1, 0, 0, 0, 0), Check.NONE);
    }

    private static void thingsFrom0To99() {
        ToldFacts facts = Check.withDesks(1);
        for (int thing = 0; thing < 100; thing++) {
            Check.due("thing " + thing, facts.tell(0, thing, 3, 3, 1), 8 * thing);
            Check.due("known of it", facts.known(0, thing, 3, 3, 500), 1);
        }
        int told = 100;
        for (int thing = 0; thing < 100; thing += 99) {
            Check.due("a second value", facts.tell(0, thing, 3, 3, 2), 8 * told++);
            Check.due("is in conflict", facts.conflict(0, 0, 0), thing);
            Check.due("settled", facts.settle(0, thing, 3, 0), 8 * told++);
            Check.due("known of it", facts.known(0, thing, 3, 3, 500), 1);
        }
        for (int thing : NO_THINGS) {
            Check.due("tell, thing " + thing, facts.tell(0, thing, 3, 3, 1), Check.NONE);
            Check.due("known, thing " + thing, facts.known(0, thing, 3, 3, 500), Check.NOTHING);
            Check.due("settle, thing " + thing, facts.settle(0, thing, 3, 0), Check.NONE);
        }
    }

    private static void kindsFrom0To9() {
        ToldFacts facts = Check.withDesks(1);
        for (int kind = 0; kind < 10; kind++) {
            Check.due("kind " + kind, facts.tell(0, 3, kind, 3, 1), 8 * kind);
            Check.due("known of it", facts.known(0, 3, kind, 3, 500), 1);
            Check.due("found", facts.find(0, kind, 1, 0), 8 * kind);
        }
        int told = 10;
        for (int kind = 0; kind < 10; kind += 9) {
            Check.due("a second value", facts.tell(0, 3, kind, 3, 2), 8 * told++);
            Check.due("is in conflict", facts.conflict(0, 0, 1), kind);
            Check.due("settled", facts.settle(0, 3, kind, 0), 8 * told++);
            Check.due("known of it", facts.known(0, 3, kind, 3, 500), 1);
        }
        for (int kind : NO_KINDS) {
            Check.due("tell, kind " + kind, facts.tell(0, 3, kind, 3, 1), Check.NONE);
            Check.due("known, kind " + kind, facts.known(0, 3, kind, 3, 500), Check.NOTHING);
            Check.due("settle, kind " + kind, facts.settle(0, 3, kind, 0), Check.NONE);
            Check.due("find, kind " + kind, facts.find(0, kind, 1, 0), Check.NONE);
        }
    }

    private static void daysFrom0To100000() {
        ToldFacts facts = Check.withDesks(1);
        long[] days = {0, 1, 99_999, 100_000};
        for (int c = 0; c < days.length; c++) {
            Check.due("day " + days[c], facts.tell(0, 3, 3, days[c], c), 8 * c);
            Check.due("known on it", facts.known(0, 3, 3, days[c], 500), c);
        }
        Check.due("on day 99,999 after it all", facts.known(0, 3, 3, 99_999, 500), 2);
        int told = 4;
        for (int day = 0; day <= 100_000; day += 100_000) {
            Check.due("a second value", facts.tell(0, 3, 3, day, 9), 8 * told++);
            Check.due("is in conflict", facts.conflict(0, 0, 2), day);
            Check.due("settled", facts.settle(0, 3, 3, 1), 8 * told++);
            Check.due("known on it", facts.known(0, 3, 3, day, 500), 9);
        }
        for (long day : NO_DAYS) {
            Check.due("tell, day " + day, facts.tell(0, 3, 3, day, 1), Check.NONE);
        }
        Check.due("counts", facts.counts(0), told);
    }

    private static void numbersAreEightTimesPlusDesk() {
        ToldFacts facts = Check.withDesks(8);
        int[] told = new int[8];
        for (int c = 0; c < 60; c++) {
            int desk = c * c % 8;
            Check.due("told at desk " + desk, facts.tell(desk, 0, 0, 0, c), 8 * told[desk]++ + desk);
        }
        facts.join(0, 1);
        facts.join(0, 4);
        Check.due("what came by joining counts for no number", facts.tell(0, 0, 0, 0, 0), 8 * told[0]);
        Check.due("nor do refused ones", facts.tell(1, 0, 0, -1, 0), Check.NONE);
        Check.due("nor do refused ones", facts.tell(1, 0, 0, 0, 0), 8 * told[1] + 1);
    }

    private static void allIsFull(ToldFacts facts, int desks) {
        for (int desk = 0; desk < desks; desk++) {
            Check.due("a 301st at desk " + desk, facts.tell(desk, 9, 9, 9, 9), Check.FULL);
        }
    }

    private static void threeHundredFactsByTelling() {
        ToldFacts facts = Check.withDesks(8);
        for (int c = 0; c < 299; c++) {
            Check.due("tell", facts.tell(c % 7, 1, 1, 1, 1), 8 * (c / 7) + c % 7);
        }
        Check.due("the 300th, at a desk where none was told", facts.tell(7, 1, 1, 1, 1), 7);
        allIsFull(facts, 8);
    }

    private static void threeHundredFactsByCorrecting() {
        ToldFacts facts = Check.withDesks(2);
        Check.due("tell", facts.tell(0, 1, 1, 1, 0), 0);
        for (int c = 1; c < 300; c++) {
            Check.due("correct", facts.correct(0, 8 * (c - 1), c), 8 * c);
        }
        Check.due("a 301st", facts.correct(0, 8 * 299, 300), Check.FULL);
        allIsFull(facts, 2);
        Check.due("the 300th is known", facts.known(0, 1, 1, 1, 300), 299);
    }

    private static void threeHundredFactsBySettling() {
        ToldFacts facts = Check.withDesks(2);
        for (int day = 0; day < 100; day++) {
            facts.tell(0, 1, 1, day, 1);
            facts.tell(0, 1, 1, day, 2);
        }
        for (int c = 200; c < 299; c++) {
            Check.due("settle", facts.settle(0, 1, 1, 0), 8 * c);
        }
        Check.due("one spot is left, the last", facts.conflict(0, 0, 2), 99);
        Check.due("the 300th", facts.settle(0, 1, 1, 0), 8 * 299);
        Check.due("no spot is left", facts.settle(0, 1, 1, 0), Check.NONE);
        allIsFull(facts, 2);
    }

    private static void threeHundredFactsInOpenBatches() {
        ToldFacts facts = Check.withDesks(3);
        Check.due("batch(0)", facts.batch(0), 0);
        Check.due("batch(1)", facts.batch(1), 1);
        for (int c = 0; c < 150; c++) {
            Check.due("in batch 0", facts.tell(0, 1, 1, 1, c), 8 * c);
            Check.due("in batch 1", facts.tell(1, 1, 1, 1, c), 8 * c + 1);
        }
        allIsFull(facts, 3);
        Check.due("endBatch(0)", facts.endBatch(0), true);
        allIsFull(facts, 3);
        Check.due("counts(0)", facts.counts(0), 150);
        Check.due("endBatch(1)", facts.endBatch(1), true);
        Check.due("counts(1)", facts.counts(1), 150);
        Check.due("all stand", facts.conflict(1, 0, 3), 150);
    }

    private static void threeHundredFactsByPlaying() {
        ToldFacts facts = Check.withDesks(1);
        for (int seed = 0; seed < 3; seed++) {
            facts.play(seed, 200);
        }
        allIsFull(facts, 1);
        Check.due("one desk knows all", facts.counts(0), 300);
        Check.due("a play tells no more", facts.play(3, 200), 300);
    }

    private static void joiningMakesNoFacts() {
        ToldFacts facts = Check.withDesks(8);
        for (int c = 0; c < 200; c++) {
            facts.tell(0, 1, 1, 1, 1);
        }
        for (int desk = 1; desk < 8; desk++) {
            facts.join(desk, 0);
            Check.due("knows all", facts.counts(desk), 200);
        }
        for (int c = 0; c < 100; c++) {
            Check.due("1,600 are known, 100 more are told", facts.tell(7, 1, 1, 1, 1), 8 * c + 7);
        }
        allIsFull(facts, 8);
    }

    private static void aClockIs0AtFirst() {
        ToldFacts facts = new ToldFacts();
        for (int desk = 0; desk < 8; desk++) {
            Check.due("desk()", facts.desk(), desk);
            for (int c = 0; c < 5; c++) {
                facts.tell(desk, desk, 1, c, 7);
            }
            Check.due("at 0 nothing", facts.known(desk, desk, 1, 0, 0), Check.NOTHING);
            Check.due("the first has time 1", Check.timeOf(facts, desk, desk, 1, 0), 1);
        }
    }

    private static void aFactMovesTheClockByOne() {
        ToldFacts facts = Check.withDesks(1);
        facts.tell(0, 1, 1, 1, 1);
        facts.tell(0, 1, 1, 1, 2);
        facts.correct(0, 0, 3);
        facts.settle(0, 1, 1, 0);
        facts.batch(0);
        facts.tell(0, 2, 1, 1, 5);
        facts.endBatch(0);
        facts.tell(0, 3, 1, 1, 6);
        Check.due("told: time 1", facts.known(0, 1, 1, 1, 1), 1);
        Check.due("told: time 2", facts.known(0, 1, 1, 1, 2), 2);
        Check.due("corrected: time 3", facts.known(0, 1, 1, 1, 3), 3);
        Check.due("settled: time 4", facts.known(0, 1, 1, 1, 4), 2);
        Check.due("in a batch: time 5", Check.timeOf(facts, 0, 2, 1, 1), 5);
        Check.due("after it: time 6", Check.timeOf(facts, 0, 3, 1, 1), 6);
        for (int c = 6; c < 299; c++) {
            facts.tell(0, 4, 1, 1, c);
        }
        Check.due("the 300th", facts.tell(0, 5, 1, 1, 1), 8 * 299);
        Check.due("time 300", Check.timeOf(facts, 0, 5, 1, 1), 300);
    }

    private static void factsOfABatchAreKnownFromItsEndOn() {
        ToldFacts facts = Check.withDesks(2);
        facts.batch(0);
        facts.tell(0, 1, 1, 1, 5);
        facts.tell(0, 1, 1, 1, 6);
        for (int round = 0; round < 2; round++) {
            boolean isOver = round == 1;
            Check.due("counts", facts.counts(0), isOver ? 2 : 0);
            Check.due("known", facts.known(0, 1, 1, 1, 9), isOver ? 6 : Check.NOTHING);
            Check.due("find", facts.find(0, 1, 5, 0), isOver ? 0 : Check.NONE);
            Check.due("conflict", facts.conflict(0, 0, 3), isOver ? 2 : Check.NONE);
            Check.due("equal", facts.equal(0, 1), !isOver);
            Check.due("play(1, 0)", facts.play(1, 0), isOver ? 2 : 0);
            Check.due("join", facts.join(1, 0), isOver ? 1 : 0);
            Check.due("counts of the other", facts.counts(1), isOver ? 2 : 0);
            Check.due("correct", facts.correct(0, 0, 7), isOver ? 16 : Check.NONE);
            Check.due("settle", facts.settle(0, 1, 1, 0), isOver ? 24 : Check.NONE);
            Check.due("the end", facts.endBatch(0), !isOver);
        }
    }

    /** By tell, correct, settle and play; what another desk is told afterwards does not come by an old join. */
    private static void aDeskKnowsWhatWasToldThereAndWhatCame() {
        ToldFacts facts = Check.withDesks(2);
        facts.tell(0, 1, 1, 1, 1);
        Check.due("told", facts.counts(0), 1);
        facts.correct(0, 0, 2);
        Check.due("corrected", facts.counts(0), 2);
        facts.tell(0, 1, 1, 1, 3);
        facts.settle(0, 1, 1, 0);
        Check.due("settled", facts.counts(0), 4);
        Check.due("the other desk knows none of them", facts.counts(1), 0);
        facts.join(1, 0);
        Check.due("they came by joining", facts.counts(1), 4);
        facts.tell(0, 1, 1, 1, 4);
        Check.due("one told afterwards did not come", facts.counts(1), 4);
        Check.due("nor can it be corrected there", facts.correct(1, 32, 5), Check.NONE);
        ToldFacts played = Check.withDesks(1);
        Check.due("played, seed 0: one is told", played.play(0, 1), 1);
        Check.due("and known", played.counts(0), 1);
    }

    /** Thing, kind and day of a correction and of a settlement are those of what they replace, and no others'. */
    private static void aFactReplacesFactsOfItsSpot() {
        int[][] spots = {{0, 0, 0}, {7, 3, 12_345}, {99, 9, 100_000}};
        for (int[] spot : spots) {
            ToldFacts facts = Check.withDesks(1);
            facts.tell(0, spot[0], spot[1], spot[2], 1);
            facts.tell(0, 50, 5, 50, 9);
            facts.correct(0, 0, 2);
            facts.tell(0, spot[0], spot[1], spot[2], 3);
            for (int what = 0; what < 3; what++) {
                Check.due("the correction's spot", facts.conflict(0, 0, what), spot[what]);
            }
            Check.due("settle", facts.settle(0, spot[0], spot[1], 0), 32);
            facts.tell(0, spot[0], spot[1], spot[2], 4);
            for (int what = 0; what < 3; what++) {
                Check.due("the settlement's spot", facts.conflict(0, 0, what), spot[what]);
            }
            Check.due("it and the new one stand", facts.conflict(0, 0, 3), 2);
            Check.due("the first of them", facts.conflict(0, 0, 4), 32);
            Check.due("one of another spot stands as before", facts.correct(0, 8, 8), 48);
        }
    }

    /** Also one whose replacer is replaced itself: it does not stand again. */
    private static void aFactStandsWhenNoneReplacesIt() {
        ToldFacts facts = Check.withDesks(2);
        facts.tell(0, 1, 1, 1, 1);
        facts.join(1, 0);
        facts.correct(0, 0, 2);
        facts.correct(0, 8, 3);
        Check.due("replaced by one that is replaced", facts.correct(0, 0, 9), Check.NONE);
        Check.due("replaced by one that stands", facts.correct(0, 8, 9), Check.NONE);
        Check.due("no two stand", facts.conflict(0, 0, 3), Check.NONE);
        long[] due = {Check.NOTHING, 1, 2, 3, 3};
        for (int on = 0; on < due.length; on++) {
            Check.due("of those told by " + on, facts.known(0, 1, 1, 1, on), due[on]);
        }
        Check.due("at desk 1 none replaces it", facts.known(1, 1, 1, 1, 9), 1);
        Check.due("so it stands there", facts.correct(1, 0, 4), 1);
        Check.due("two replace it: both stand", facts.join(1, 0), 1);
        Check.due("the first", facts.conflict(1, 0, 4), 1);
        Check.due("the second", facts.conflict(1, 0, 5), 16);
        Check.due("no third", facts.conflict(1, 0, 6), Check.NONE);
    }

    private static void aSpotIsInConflictByWhatStands() {
        ToldFacts facts = Check.withDesks(2);
        facts.tell(0, 1, 1, 1, 1);
        Check.due("one value", facts.conflict(0, 0, 0), Check.NONE);
        facts.correct(0, 0, 2);
        Check.due("two values, of which one stands", facts.conflict(0, 0, 0), Check.NONE);
        facts.tell(0, 1, 1, 1, 2);
        Check.due("two stand with one value", facts.conflict(0, 0, 0), Check.NONE);
        facts.tell(0, 1, 1, 1, 1);
        Check.due("different values stand", facts.conflict(0, 0, 0), 1);
        Check.due("of all that stands there, three", facts.conflict(0, 0, 3), 3);
        Check.due("not at a desk that knows none of it", facts.conflict(1, 0, 0), Check.NONE);
        facts.correct(0, 24, 2);
        Check.due("again one value", facts.conflict(0, 0, 0), Check.NONE);
        facts.tell(0, 1, 1, 2, 3);
        facts.tell(0, 1, 2, 1, 3);
        facts.tell(0, 2, 1, 1, 3);
        Check.due("values of other spots are none of its own", facts.conflict(0, 0, 0), Check.NONE);
    }
}
