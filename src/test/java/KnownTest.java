/** Promise 6: what was known at a desk at a time, of a thing and kind on a day. */
public final class KnownTest {
    public static void main(String[] args) {
        latestDayNotAbove();
        atATime();
        ofSeveral();
        edges();
        nothing();
        timeNotAboveOn();
        standsAmongThoseAlone();
        dayNotAboveTheDay();
        ofOneTimeTheGreatestNumber();
        leastLongAsAValue();
        nothingAtAll();
        ofAllThreeHundred();
        changesNothing();
        Check.end("KnownTest");
    }

    private static void latestDayNotAbove() {
        ToldFacts facts = Check.withDesks(1);
        facts.tell(0, 1, 1, 20, 200);
        facts.tell(0, 1, 1, 10, 100);
        facts.tell(0, 1, 2, 15, 150);
        facts.tell(0, 2, 1, 15, 151);
        long[][] due = {{9, Check.NOTHING}, {10, 100}, {19, 100}, {20, 200}, {21, 200}, {100_000, 200}};
        for (long[] row : due) {
            Check.due("known on day " + row[0], facts.known(0, 1, 1, row[0], 9), row[1]);
        }
        facts.correct(0, 0, 201);
        Check.due("a correction counts for its own day", facts.known(0, 1, 1, 19, 9), 100);
        Check.due("known on day 20", facts.known(0, 1, 1, 20, 9), 201);
    }

    private static void atATime() {
        ToldFacts facts = Check.withDesks(1);
        facts.tell(0, 1, 1, 10, 100);
        facts.tell(0, 1, 1, 20, 200);
        facts.correct(0, 0, 101);
        facts.correct(0, 8, 201);
        long[] onDay10 = {Check.NOTHING, 100, 100, 101, 101, 101};
        long[] onDay20 = {Check.NOTHING, 100, 200, 200, 201, 201};
        for (int on = 0; on < 6; on++) {
            Check.due("day 10 at " + on, facts.known(0, 1, 1, 10, on), onDay10[on]);
            Check.due("day 20 at " + on, facts.known(0, 1, 1, 20, on), onDay20[on]);
        }
    }

    private static void ofSeveral() {
        ToldFacts facts = Check.withDesks(8);
        facts.tell(7, 1, 1, 1, 70);
        facts.tell(3, 1, 1, 1, 30);
        facts.tell(5, 9, 9, 9, 0);
        facts.tell(5, 1, 1, 1, 50);
        facts.join(0, 7);
        facts.join(0, 3);
        Check.due("of one time the greatest number", facts.known(0, 1, 1, 1, 9), 70);
        facts.join(0, 5);
        Check.due("the greatest time", facts.known(0, 1, 1, 1, 9), 50);
        Check.due("at time 1", facts.known(0, 1, 1, 1, 1), 70);
        facts.join(2, 5);
        facts.join(2, 3);
        facts.join(2, 7);
        Check.due("in another order", facts.known(2, 1, 1, 1, 9), 50);
        Check.due("in another order at time 1", facts.known(2, 1, 1, 1, 1), 70);
        facts.tell(3, 1, 1, 1, 31);
        facts.join(2, 3);
        Check.due("of times 2 and 2, numbers 13 and 11", facts.known(2, 1, 1, 1, 9), 50);
        facts.correct(2, 13, 51);
        Check.due("a replaced one does not stand", facts.known(2, 1, 1, 1, 9), 51);
        Check.due("but did at time 2", facts.known(2, 1, 1, 1, 2), 50);
    }

    private static void edges() {
        ToldFacts facts = Check.withDesks(8);
        facts.tell(7, 99, 9, 100_000, 5);
        facts.tell(7, 0, 0, 0, 6);
        Check.due("the last spot", facts.known(7, 99, 9, 100_000, 1), 5);
        Check.due("a day above all", facts.known(7, 99, 9, 100_001, 1), 5);
        Check.due("the greatest day", facts.known(7, 99, 9, Long.MAX_VALUE, Long.MAX_VALUE), 5);
        Check.due("the first spot", facts.known(7, 0, 0, 0, 2), 6);
        Check.due("the first spot, too early", facts.known(7, 0, 0, 0, 1), Check.NOTHING);
        Check.due("a great day", facts.known(7, 0, 0, 1L << 40, 2), 6);
        Check.due("a great time", facts.known(7, 0, 0, 0, 1L << 40), 6);
    }

    private static void nothing() {
        ToldFacts facts = Check.withDesks(2);
        facts.tell(0, 1, 0, 0, 5);
        facts.tell(0, 0, 9, 7, 6);
        long most = Long.MAX_VALUE;
        int[] wrong = {-1, 2, 8, Integer.MIN_VALUE, Integer.MAX_VALUE};
        for (int desk : wrong) {
            Check.due("no desk " + desk, facts.known(desk, 1, 0, 0, most), Check.NOTHING);
        }
        Check.due("a desk that knows none", facts.known(1, 1, 0, 0, most), Check.NOTHING);
        Check.due("thing -1", facts.known(0, -1, 0, 0, most), Check.NOTHING);
        Check.due("thing 100", facts.known(0, 100, 0, 0, most), Check.NOTHING);
        Check.due("kind -1 of thing 1 is not kind 9 of thing 0", facts.known(0, 1, -1, 7, most), Check.NOTHING);
        Check.due("kind 10 of thing 0 is not kind 0 of thing 1", facts.known(0, 0, 10, 7, most), Check.NOTHING);
        Check.due("10 * thing + kind is 9 in 32 bits", facts.known(0, 429496729, 15, 7, most), Check.NOTHING);
        Check.due("day -1", facts.known(0, 1, 0, -1, most), Check.NOTHING);
        Check.due("least day", facts.known(0, 1, 0, Long.MIN_VALUE, most), Check.NOTHING);
        Check.due("time 0", facts.known(0, 1, 0, 0, 0), Check.NOTHING);
        Check.due("time -1", facts.known(0, 1, 0, 0, -1), Check.NOTHING);
        Check.due("least time", facts.known(0, 1, 0, 0, Long.MIN_VALUE), Check.NOTHING);
    }

    private static void timeNotAboveOn() {
        ToldFacts facts = Check.withDesks(1);
        Check.fill(facts, 0, 4);
        facts.tell(0, 1, 1, 1, 5);
        Check.due("at the least long", facts.known(0, 1, 1, 1, Long.MIN_VALUE), Check.NOTHING);
        Check.due("below 32 bits", facts.known(0, 1, 1, 1, -(1L << 32) + 5), Check.NOTHING);
        Check.due("at -1", facts.known(0, 1, 1, 1, -1), Check.NOTHING);
        Check.due("at 0", facts.known(0, 1, 1, 1, 0), Check.NOTHING);
        Check.due("at its time less 1", facts.known(0, 1, 1, 1, 4), Check.NOTHING);
        Check.due("at its time", facts.known(0, 1, 1, 1, 5), 5);
        Check.due("at its time and 1", facts.known(0, 1, 1, 1, 6), 5);
        Check.due("above 32 bits", facts.known(0, 1, 1, 1, 1L << 32), 5);
        Check.due("at the greatest long", facts.known(0, 1, 1, 1, Long.MAX_VALUE), 5);
    }

    /** One that was replaced later stood until then, on its own day, before a later day that stands. */
    private static void standsAmongThoseAlone() {
        ToldFacts facts = Check.withDesks(2);
        facts.tell(0, 1, 1, 10, 100);
        facts.join(1, 0);
        facts.tell(1, 9, 9, 9, 9);
        facts.tell(1, 9, 9, 9, 9);
        Check.due("replaced at desk 1 at time 4", facts.correct(1, 0, 101), 17);
        facts.join(0, 1);
        Check.due("at 3 the old one stands", facts.known(0, 1, 1, 10, 3), 100);
        Check.due("at 4 the new one", facts.known(0, 1, 1, 10, 4), 101);
        Check.due("replaced again at time 5", facts.correct(0, 17, 102), 8);
        Check.due("at 4 as before", facts.known(0, 1, 1, 10, 4), 101);
        Check.due("at 5", facts.known(0, 1, 1, 10, 5), 102);
    }

    private static void dayNotAboveTheDay() {
        ToldFacts facts = Check.withDesks(1);
        facts.tell(0, 1, 1, 0, 5);
        facts.tell(0, 1, 1, 7, 6);
        facts.tell(0, 1, 1, 100_000, 8);
        long[][] due = {
            {Long.MIN_VALUE, Check.NOTHING}, {-(1L << 32) + 7, Check.NOTHING}, {-1, Check.NOTHING}, {0, 5}, {1, 5},
            {6, 5}, {7, 6}, {8, 6}, {99_999, 6}, {100_000, 8}, {100_001, 8}, {1L << 32, 8}, {Long.MAX_VALUE, 8}};
        for (long[] row : due) {
            Check.due("on day " + row[0], facts.known(0, 1, 1, row[0], 9), row[1]);
        }
        Check.due("at 2 on the last day", facts.known(0, 1, 1, 100_000, 2), 6);
        Check.due("at 1 on the last day", facts.known(0, 1, 1, 100_000, 1), 5);
    }

    /** Facts of eight desks with one time; told from the greatest desk on and from the least on. */
    private static void ofOneTimeTheGreatestNumber() {
        for (int step = -1; step <= 1; step += 2) {
            ToldFacts facts = Check.withDesks(8);
            for (int i = 0; i < 8; i++) {
                int desk = step > 0 ? i : 7 - i;
                facts.tell(desk, 1, 1, 1, 10 + desk);
            }
            for (int desk = 1; desk < 8; desk++) {
                facts.join(0, desk);
                Check.due("of " + (desk + 1), facts.known(0, 1, 1, 1, 1), 10 + desk);
            }
            facts.tell(0, 1, 1, 1, 99);
            Check.due("number 8, a greater time", facts.known(0, 1, 1, 1, 2), 99);
            facts.tell(7, 1, 1, 1, 98);
            facts.tell(7, 2, 1, 1, 98);
            facts.join(0, 7);
            Check.due("number 15 of the same time", facts.known(0, 1, 1, 1, 2), 98);
        }
        ToldFacts facts = Check.withDesks(2);
        facts.tell(1, 1, 1, 1, 20);
        Check.fill(facts, 0, 1);
        facts.tell(0, 1, 1, 1, 30);
        facts.tell(1, 1, 1, 1, 21);
        facts.tell(1, 1, 1, 1, 22);
        facts.join(0, 1);
        Check.due("time 2: number 9 is above number 8", facts.known(0, 1, 1, 1, 2), 21);
        Check.due("time 3: number 17", facts.known(0, 1, 1, 1, 3), 22);
    }

    private static void leastLongAsAValue() {
        ToldFacts facts = Check.withDesks(1);
        facts.tell(0, 1, 1, 1, 5);
        facts.tell(0, 1, 1, 2, Long.MIN_VALUE);
        Check.due("the latest day says it", facts.known(0, 1, 1, 2, 9), Long.MIN_VALUE);
        Check.due("the day before", facts.known(0, 1, 1, 1, 9), 5);
        facts.correct(0, 8, Long.MAX_VALUE);
        Check.due("corrected", facts.known(0, 1, 1, 2, 9), Long.MAX_VALUE);
        Check.due("at 2", facts.known(0, 1, 1, 2, 2), Long.MIN_VALUE);
    }

    private static void nothingAtAll() {
        ToldFacts facts = Check.withDesks(8);
        int[] desks = {Integer.MIN_VALUE, -1, 0, 7, 8, Integer.MAX_VALUE};
        for (int desk : desks) {
            Check.due("nothing was told", facts.known(desk, 0, 0, 100_000, Long.MAX_VALUE), Check.NOTHING);
        }
        facts.tell(7, 0, 0, 0, 5);
        Check.due("at desk 7", facts.known(7, 0, 0, 0, 1), 5);
        Check.due("at desk 6", facts.known(6, 0, 0, 0, 1), Check.NOTHING);
        Check.due("at desk 8", facts.known(8, 0, 0, 0, 1), Check.NOTHING);
        Check.due("of another thing", facts.known(7, 1, 0, 0, 1), Check.NOTHING);
        Check.due("of another kind", facts.known(7, 0, 1, 0, 1), Check.NOTHING);
    }

    private static void ofAllThreeHundred() {
        ToldFacts facts = Check.withDesks(1);
        for (int c = 0; c < 300; c++) {
            facts.tell(0, 1, 1, 299 - c, c);
        }
        for (int on = 1; on <= 300; on += 13) {
            Check.due("the latest day was told first", facts.known(0, 1, 1, 299, on), 0);
            Check.due("the first day at " + on, facts.known(0, 1, 1, 300 - on, on), on - 1);
        }
        Check.due("the last of them", facts.known(0, 1, 1, 0, 300), 299);
        Check.due("before it", facts.known(0, 1, 1, 0, 299), Check.NOTHING);
    }

    private static void changesNothing() {
        Twins.noEffect("known", Twins::few, 55, x -> x.known(0, 1, 1, 5, 2));
        Twins.noEffect("known of nothing", Twins::few, Check.NOTHING, x -> x.known(0, 1, 1, 4, 2));
        Twins.noEffect("known at no desk", Twins::few, Check.NOTHING, x -> x.known(3, 1, 1, 5, 2));
        Twins.noEffect("known of no thing", Twins::few, Check.NOTHING, x -> x.known(0, 100, 1, 5, 2));
    }
}
