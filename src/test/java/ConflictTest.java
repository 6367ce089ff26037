/** Promise 7: the spots in conflict, in their order, with the facts that stand there. */
public final class ConflictTest {
    public static void main(String[] args) {
        orderOfSpots();
        numbersRise();
        onlyWhatStands();
        sameValuesAreNoConflict();
        wrongInputs();
        manyStand();
        spotNumberFromZero();
        whatFromZero();
        noConflicts();
        changesNothing();
        Check.end("ConflictTest");
    }

    private static void orderOfSpots() {
        int[][] spots = {
            {0, 0, 0}, {0, 0, 100_000}, {0, 1, 5}, {0, 9, 100_000}, {1, 0, 0}, {2, 3, 4}, {99, 9, 100_000}};
        int[] told = {3, 6, 0, 5, 2, 4, 1};
        ToldFacts facts = Check.withDesks(1);
        for (int v = 0; v < 2; v++) {
            for (int i : told) {
                facts.tell(0, spots[i][0], spots[i][1], spots[i][2], v);
            }
        }
        for (int k = 0; k < spots.length; k++) {
            for (int what = 0; what < 3; what++) {
                Check.due("conflict(0, " + k + ", " + what + ")", facts.conflict(0, k, what), spots[k][what]);
            }
            Check.due("two stand", facts.conflict(0, k, 3), 2);
        }
        Check.due("no more", facts.conflict(0, spots.length, 0), Check.NONE);
    }

    private static void numbersRise() {
        ToldFacts facts = Check.withDesks(8);
        facts.tell(0, 9, 9, 9, 9);
        for (int desk = 7; desk >= 0; desk--) {
            facts.tell(desk, 1, 1, 1, desk);
        }
        for (int desk = 1; desk < 8; desk++) {
            facts.join(0, desk);
        }
        int[] due = {1, 1, 1, 8, 1, 2, 3, 4, 5, 6, 7, 8, Check.NONE, Check.NONE};
        for (int what = 0; what < due.length; what++) {
            Check.due("what = " + what, facts.conflict(0, 0, what), due[what]);
        }
        Check.due("at desk 1 there is none", facts.conflict(1, 0, 0), Check.NONE);
    }

    private static void onlyWhatStands() {
        ToldFacts facts = Check.withDesks(1);
        facts.tell(0, 1, 1, 1, 1);
        facts.tell(0, 1, 1, 1, 2);
        facts.tell(0, 1, 1, 1, 1);
        Check.due("three stand", facts.conflict(0, 0, 3), 3);
        facts.correct(0, 0, 3);
        Check.due("still three", facts.conflict(0, 0, 3), 3);
        Check.due("first", facts.conflict(0, 0, 4), 8);
        Check.due("second", facts.conflict(0, 0, 5), 16);
        Check.due("third", facts.conflict(0, 0, 6), 24);
        Check.due("no fourth", facts.conflict(0, 0, 7), Check.NONE);
        facts.correct(0, 8, 1);
        Check.due("1, 1 and 3 stand", facts.conflict(0, 0, 3), 3);
        facts.correct(0, 24, 1);
        Check.due("1, 1 and 1 stand", facts.conflict(0, 0, 3), Check.NONE);
    }

    private static void sameValuesAreNoConflict() {
        ToldFacts facts = Check.withDesks(2);
        facts.tell(0, 1, 1, 1, 7);
        facts.tell(0, 1, 1, 1, 7);
        facts.tell(0, 1, 1, 2, 8);
        facts.tell(0, 1, 2, 1, 9);
        facts.tell(0, 2, 1, 1, 10);
        Check.due("other spots are no conflict", facts.conflict(0, 0, 0), Check.NONE);
        facts.tell(1, 1, 1, 1, 7 + (1L << 32));
        Check.due("join", facts.join(0, 1), 1);
        Check.due("all three stand there", facts.conflict(0, 0, 3), 3);
    }

    private static void wrongInputs() {
        ToldFacts facts = Check.withDesks(2);
        facts.tell(0, 1, 1, 1, 1);
        facts.tell(0, 1, 1, 1, 2);
        int[] wrong = {-1, 2, 8, Integer.MIN_VALUE, Integer.MAX_VALUE};
        for (int w : wrong) {
            Check.due("no desk " + w, facts.conflict(w, 0, 0), Check.NONE);
            Check.due("no spot " + w, facts.conflict(0, w, 0), Check.NONE);
        }
        int[] noWhat = {-1, -4, 6, 7, 303, Integer.MIN_VALUE, Integer.MIN_VALUE + 3, Integer.MAX_VALUE};
        for (int what : noWhat) {
            Check.due("no what " + what, facts.conflict(0, 0, what), Check.NONE);
        }
        Check.due("no spot 1", facts.conflict(0, 1, 0), Check.NONE);
        Check.due("desk 1 knows none", facts.conflict(1, 0, 0), Check.NONE);
    }

    private static void manyStand() {
        ToldFacts facts = Check.withDesks(1);
        for (int c = 0; c < 300; c++) {
            facts.tell(0, 1, 1, 1, c);
        }
        Check.due("300 stand", facts.conflict(0, 0, 3), 300);
        Check.due("the first", facts.conflict(0, 0, 4), 0);
        Check.due("the last", facts.conflict(0, 0, 303), 8 * 299);
        Check.due("no more", facts.conflict(0, 0, 304), Check.NONE);
        ToldFacts other = Check.withDesks(1);
        for (int c = 0; c < 300; c++) {
            other.tell(0, 1, 1, 149 - c / 2, c % 2);
        }
        Check.due("150 spots, the last", other.conflict(0, 149, 2), 149);
        Check.due("its facts", other.conflict(0, 149, 5), 8);
        Check.due("no more spots", other.conflict(0, 150, 2), Check.NONE);
    }

    /** The first that is not, the first, the last, the first that is no more; for 1, 2 and 3 spots. */
    private static void spotNumberFromZero() {
        ToldFacts facts = Check.withDesks(1);
        for (int spots = 0; spots <= 3; spots++) {
            for (int k = 0; k < spots; k++) {
                Check.due("spot " + k + " of " + spots, facts.conflict(0, k, 2), k);
            }
            int[] none = {
                Integer.MIN_VALUE, Integer.MIN_VALUE + 1, -2, -1, spots, spots + 1, 150, 300, Integer.MAX_VALUE};
            for (int k : none) {
                for (int what = 0; what < 6; what++) {
                    Check.due("no spot " + k + " of " + spots, facts.conflict(0, k, what), Check.NONE);
                }
            }
            facts.tell(0, 1, 1, spots, 1);
            facts.tell(0, 1, 1, spots, 2);
        }
    }

    private static void whatFromZero() {
        ToldFacts facts = Check.withDesks(2);
        facts.tell(1, 7, 8, 9, 1);
        facts.tell(0, 7, 8, 9, 2);
        facts.tell(1, 7, 8, 9, 3);
        facts.join(0, 1);
        int[] row = {7, 8, 9, 3, 0, 1, 9};
        for (int what = 0; what < row.length; what++) {
            Check.due("what = " + what, facts.conflict(0, 0, what), row[what]);
        }
        int[] none = {
            Integer.MIN_VALUE, Integer.MIN_VALUE + 3, Integer.MIN_VALUE + 4, Integer.MIN_VALUE + 5, -4, -3, -2, -1,
            7, 8, 303, 304, Integer.MAX_VALUE - 1, Integer.MAX_VALUE};
        for (int what : none) {
            Check.due("what = " + what, facts.conflict(0, 0, what), Check.NONE);
        }
    }

    private static void noConflicts() {
        ToldFacts facts = Check.withDesks(8);
        int[] desks = {Integer.MIN_VALUE, -1, 0, 7, 8, Integer.MAX_VALUE};
        for (int desk : desks) {
            for (int what = -1; what < 6; what++) {
                Check.due("nothing was told", facts.conflict(desk, 0, what), Check.NONE);
            }
        }
        facts.tell(7, 0, 0, 0, 1);
        Check.due("one fact", facts.conflict(7, 0, 3), Check.NONE);
        facts.tell(7, 0, 0, 0, 1);
        Check.due("two that say the same", facts.conflict(7, 0, 3), Check.NONE);
        facts.tell(7, 0, 0, 0, Long.MIN_VALUE);
        Check.due("a third that does not", facts.conflict(7, 0, 3), 3);
        Check.due("at desk 8", facts.conflict(8, 0, 3), Check.NONE);
        Check.due("settle", facts.settle(7, 0, 0, 2), 31);
        Check.due("no more", facts.conflict(7, 0, 3), Check.NONE);
    }

    private static void changesNothing() {
        Twins.noEffect("conflict", Twins::few, 16, x -> x.conflict(0, 0, 5));
        Twins.noEffect("conflict, no spot", Twins::few, Check.NONE, x -> x.conflict(0, 1, 0));
        Twins.noEffect("conflict, no such fact", Twins::few, Check.NONE, x -> x.conflict(0, 0, 6));
        Twins.noEffect("conflict at no desk", Twins::few, Check.NONE, x -> x.conflict(3, 0, 0));
        Twins.noEffect("conflict when full", Twins::full, Check.NONE, x -> x.conflict(0, 300, 3));
    }
}
