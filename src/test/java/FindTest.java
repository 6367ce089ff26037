/** Promise 13: the facts of a kind with a value that a desk knows, by numbers. */
public final class FindTest {
    public static void main(String[] args) {
        byNumbers();
        ofTheKindAndValue();
        alsoWhatDoesNotStand();
        nothing();
        numberFromZero();
        kindsAndValuesAtTheEnds();
        emptyAndFull();
        changesNothing();
        Check.end("FindTest");
    }

    private static void byNumbers() {
        ToldFacts facts = Check.withDesks(8);
        for (int desk = 7; desk >= 0; desk--) {
            facts.tell(desk, desk, 9, 100 - desk, 5);
            facts.tell(desk, 99 - desk, 9, desk, 5);
        }
        for (int desk = 1; desk < 8; desk++) {
            facts.join(0, desk);
        }
        for (int k = 0; k < 16; k++) {
            Check.due("find number " + k, facts.find(0, 9, 5, k), k);
        }
        Check.due("no more", facts.find(0, 9, 5, 16), Check.NONE);
        Check.due("desk 3 knows two", facts.find(3, 9, 5, 1), 11);
        Check.due("and no more", facts.find(3, 9, 5, 2), Check.NONE);
    }

    private static void ofTheKindAndValue() {
        ToldFacts facts = Check.withDesks(1);
        facts.tell(0, 1, 0, 1, 5);
        facts.tell(0, 1, 9, 1, 5);
        facts.tell(0, 2, 0, 1, 6);
        facts.tell(0, 3, 0, 100_000, 5);
        facts.tell(0, 3, 0, 1, 5 + (1L << 32));
        Check.due("kind 0, value 5", facts.find(0, 0, 5, 0), 0);
        Check.due("kind 0, value 5, the second", facts.find(0, 0, 5, 1), 24);
        Check.due("no third", facts.find(0, 0, 5, 2), Check.NONE);
        Check.due("kind 9", facts.find(0, 9, 5, 0), 8);
        Check.due("value 6", facts.find(0, 0, 6, 0), 16);
        Check.due("a great value", facts.find(0, 0, 5 + (1L << 32), 0), 32);
        Check.due("kind 9, value 6", facts.find(0, 9, 6, 0), Check.NONE);
    }

    private static void alsoWhatDoesNotStand() {
        ToldFacts facts = Check.withDesks(1);
        facts.tell(0, 1, 1, 1, 5);
        facts.correct(0, 0, 6);
        facts.correct(0, 8, 5);
        Check.due("the replaced one", facts.find(0, 1, 5, 0), 0);
        Check.due("the standing one", facts.find(0, 1, 5, 1), 16);
        Check.due("the one between", facts.find(0, 1, 6, 0), 8);
        facts.batch(0);
        facts.tell(0, 1, 1, 1, 7);
        Check.due("not in a batch", facts.find(0, 1, 7, 0), Check.NONE);
        facts.endBatch(0);
        Check.due("after it", facts.find(0, 1, 7, 0), 24);
    }

    private static void nothing() {
        ToldFacts facts = Check.withDesks(2);
        facts.tell(0, 1, 1, 1, 5);
        int[] wrong = {-1, 2, 8, Integer.MIN_VALUE, Integer.MAX_VALUE};
        for (int w : wrong) {
            Check.due("no desk " + w, facts.find(w, 1, 5, 0), Check.NONE);
            Check.due("no kind " + w, facts.find(0, w, 5, 0), Check.NONE);
            Check.due("no fact " + w, facts.find(0, 1, 5, w), Check.NONE);
        }
        Check.due("kind 11", facts.find(0, 11, 5, 0), Check.NONE);
        Check.due("desk 1 knows none", facts.find(1, 1, 5, 0), Check.NONE);
    }

    private static void numberFromZero() {
        ToldFacts facts = Check.withDesks(2);
        for (int many = 0; many <= 3; many++) {
            for (int k = 0; k < many; k++) {
                Check.due("number " + k + " of " + many, facts.find(0, 1, 5, k), 8 * k);
            }
            int[] none = {
                Integer.MIN_VALUE, Integer.MIN_VALUE + 1, -2, -1, many, many + 1, 299, 300, Integer.MAX_VALUE};
            for (int k : none) {
                Check.due("number " + k + " of " + many, facts.find(0, 1, 5, k), Check.NONE);
            }
            facts.tell(0, many, 1, many, 5);
        }
    }

    private static void kindsAndValuesAtTheEnds() {
        ToldFacts facts = Check.withDesks(8);
        long[] values = {Long.MIN_VALUE, -1, 0, Long.MAX_VALUE};
        int[] kinds = {0, 9};
        for (int i = 0; i < 8; i++) {
            facts.tell(7, 99, kinds[i % 2], 100_000, values[i / 2]);
        }
        int[] noDesks = {Integer.MIN_VALUE, -1, 0, 6, 8, Integer.MAX_VALUE};
        int[] noKinds = {Integer.MIN_VALUE, -1, 1, 8, 10, 19, Integer.MAX_VALUE};
        for (int i = 0; i < 8; i++) {
            Check.due("find", facts.find(7, kinds[i % 2], values[i / 2], 0), 8 * i + 7);
            Check.due("no second", facts.find(7, kinds[i % 2], values[i / 2], 1), Check.NONE);
            for (int desk : noDesks) {
                Check.due("at desk " + desk, facts.find(desk, kinds[i % 2], values[i / 2], 0), Check.NONE);
            }
            for (int kind : noKinds) {
                Check.due("of kind " + kind, facts.find(7, kind, values[i / 2], 0), Check.NONE);
            }
        }
        Check.due("a value that none has", facts.find(7, 0, Long.MIN_VALUE + 1, 0), Check.NONE);
    }

    private static void emptyAndFull() {
        ToldFacts facts = Check.withDesks(2);
        Check.due("nothing was told", facts.find(0, 9, 7, 0), Check.NONE);
        for (int c = 0; c < 150; c++) {
            facts.tell(1, 99, 9, c, 7);
            facts.tell(0, 99, 9, c, 7);
        }
        facts.join(1, 0);
        Check.due("the first", facts.find(1, 9, 7, 0), 0);
        Check.due("the second", facts.find(1, 9, 7, 1), 1);
        Check.due("the third", facts.find(1, 9, 7, 2), 8);
        Check.due("the 300th", facts.find(1, 9, 7, 299), 8 * 149 + 1);
        Check.due("no 301st", facts.find(1, 9, 7, 300), Check.NONE);
        Check.due("desk 0 knows 150", facts.find(0, 9, 7, 149), 8 * 149);
        Check.due("no 151st", facts.find(0, 9, 7, 150), Check.NONE);
    }

    private static void changesNothing() {
        Twins.noEffect("find", Twins::few, 16, x -> x.find(0, 1, 60, 0));
        Twins.noEffect("find of nothing", Twins::few, Check.NONE, x -> x.find(0, 1, 61, 0));
        Twins.noEffect("find at no desk", Twins::few, Check.NONE, x -> x.find(3, 1, 60, 0));
        Twins.noEffect("find of no kind", Twins::few, Check.NONE, x -> x.find(0, 10, 60, 0));
    }
}
