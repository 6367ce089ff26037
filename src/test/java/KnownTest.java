/** Promise 6: what was known at a desk at a time, of a thing and kind on a day. */
public final class KnownTest {
    public static void main(String[] args) {
        latestDayNotAbove();
        atATime();
        ofSeveral();
        edges();
        nothing();
        Check.end("KnownTest");
    }

    private static void latestDayNotAbove() {
        ToldFacts facts = Check.withDesks(1);
        facts.tell(0, 1, 1, 20, 200);
        facts.tell(0, 1, 1, 10, 100);
        facts.tell(0, 1, 2, 15, 150);
        facts.tell(0, 2, 1, 15, 151);
        long[][] due = {{9, Check.NOTHING}, {10, 100}, {19, 100}, {20, 200}, {21, 200}, {100_000, 200}};
        for (long[] row : due) {
            Check.due("known on day " + row[0], facts.known(0, 1, 1, row[0], 9), row[1]);
        }
        facts.correct(0, 0, 201);
        Check.due("a correction counts for its own day", facts.known(0, 1, 1, 19, 9), 100);
        Check.due("known on day 20", facts.known(0, 1, 1, 20, 9), 201);
    }

    private static void atATime() {
        ToldFacts facts = Check.withDesks(1);
        facts.tell(0, 1, 1, 10, 100);
        facts.tell(0, 1, 1, 20, 200);
        facts.correct(0, 0, 101);
        facts.correct(0, 8, 201);
        long[] onDay10 = {Check.NOTHING, 100, 100, 101, 101, 101};
        long[] onDay20 = {Check.NOTHING, 100, 200, 200, 201, 201};
        for (int on = 0; on < 6; on++) {
            Check.due("day 10 at " + on, facts.known(0, 1, 1, 10, on), onDay10[on]);
            Check.due("day 20 at " + on, facts.known(0, 1, 1, 20, on), onDay20[on]);
        }
    }

    private static void ofSeveral() {
        ToldFacts facts = Check.withDesks(8);
        facts.tell(7, 1, 1, 1, 70);
        facts.tell(3, 1, 1, 1, 30);
        facts.tell(5, 9, 9, 9, 0);
        facts.tell(5, 1, 1, 1, 50);
        facts.join(0, 7);
        facts.join(0, 3);
        Check.due("of one time the greatest number", facts.known(0, 1, 1, 1, 9), 70);
        facts.join(0, 5);
        Check.due("the greatest time", facts.known(0, 1, 1, 1, 9), 50);
        Check.due("at time 1", facts.known(0, 1, 1, 1, 1), 70);
        facts.join(2, 5);
        facts.join(2, 3);
        facts.join(2, 7);
        Check.due("in another order", facts.known(2, 1, 1, 1, 9), 50);
        Check.due("in another order at time 1", facts.known(2, 1, 1, 1, 1), 70);
        facts.tell(3, 1, 1, 1, 31);
        facts.join(2, 3);
        Check.due("of times 2 and 2, numbers 13 and 11", facts.known(2, 1, 1, 1, 9), 50);
        facts.correct(2, 13, 51);
        Check.due("a replaced one does not stand", facts.known(2, 1, 1, 1, 9), 51);
        Check.due("but did at time 2", facts.known(2, 1, 1, 1, 2), 50);
    }

    private static void edges() {
        ToldFacts facts = Check.withDesks(8);
        facts.tell(7, 99, 9, 100_000, 5);
        facts.tell(7, 0, 0, 0, 6);
        Check.due("the last spot", facts.known(7, 99, 9, 100_000, 1), 5);
        Check.due("a day above all", facts.known(7, 99, 9, 100_001, 1), 5);
        Check.due("the greatest day", facts.known(7, 99, 9, Long.MAX_VALUE, Long.MAX_VALUE), 5);
        Check.due("the first spot", facts.known(7, 0, 0, 0, 2), 6);
        Check.due("the first spot, too early", facts.known(7, 0, 0, 0, 1), Check.NOTHING);
        Check.due("a great day", facts.known(7, 0, 0, 1L << 40, 2), 6);
        Check.due("a great time", facts.known(7, 0, 0, 0, 1L << 40), 6);
    }

    private static void nothing() {
        ToldFacts facts = Check.withDesks(2);
        facts.tell(0, 1, 0, 0, 5);
        facts.tell(0, 0, 9, 7, 6);
        long most = Long.MAX_VALUE;
        int[] wrong = {-1, 2, 8, Integer.MIN_VALUE, Integer.MAX_VALUE};
        for (int desk : wrong) {
            Check.due("no desk " + desk, facts.known(desk, 1, 0, 0, most), Check.NOTHING);
        }
        Check.due("a desk that knows none", facts.known(1, 1, 0, 0, most), Check.NOTHING);
        Check.due("thing -1", facts.known(0, -1, 0, 0, most), Check.NOTHING);
        Check.due("thing 100", facts.known(0, 100, 0, 0, most), Check.NOTHING);
        Check.due("kind -1 of thing 1 is not kind 9 of thing 0", facts.known(0, 1, -1, 7, most), Check.NOTHING);
        Check.due("kind 10 of thing 0 is not kind 0 of thing 1", facts.known(0, 0, 10, 7, most), Check.NOTHING);
        Check.due("10 * thing + kind is 9 in 32 bits", facts.known(0, 429496729, 15, 7, most), Check.NOTHING);
        Check.due("day -1", facts.known(0, 1, 0, -1, most), Check.NOTHING);
        Check.due("least day", facts.known(0, 1, 0, Long.MIN_VALUE, most), Check.NOTHING);
        Check.due("time 0", facts.known(0, 1, 0, 0, 0), Check.NOTHING);
        Check.due("time -1", facts.known(0, 1, 0, 0, -1), Check.NOTHING);
        Check.due("least time", facts.known(0, 1, 0, 0, Long.MIN_VALUE), Check.NOTHING);
    }
}
