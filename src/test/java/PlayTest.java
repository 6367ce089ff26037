/** Promise 12: turns by drawn numbers, each as if its calls were made by hand. */
public final class PlayTest {
    private static final long[] SEEDS = {0, 1, -1, 77, 1L << 33, Long.MIN_VALUE, Long.MAX_VALUE};

    private long x;

    public static void main(String[] args) {
        for (long seed : SEEDS) {
            for (int desks = 1; desks <= 8; desks++) {
                new PlayTest().comparedWithCallsByHand(seed, desks);
            }
        }
        aFactToldByHand();
        joinsByHand();
        turnsAtTheEdges();
        noDesks();
        batchesTakeWhatIsPlayed();
        playedUntilFull();
        Check.end("PlayTest");
    }

    private int draw(int modulo) {
        x = x * 6364136223846793005L + 1442695040888963407L;
        return (int) ((x >>> 33) % modulo);
    }

    /** By calls of the face alone; below 60 turns both objects stay under 512 calls. */
    private void comparedWithCallsByHand(long seed, int desks) {
        ToldFacts played = Check.withDesks(desks);
        ToldFacts byHand = Check.withDesks(desks);
        int turns = 60;
        x = seed;
        for (int turn = 0; turn < turns; turn++) {
            int desk = draw(desks);
            if (draw(4) < 3) {
                int thing = draw(4);
                int kind = draw(2);
                int day = draw(3);
                byHand.tell(desk, thing, kind, day, draw(5));
            } else {
                byHand.join(desk, draw(desks));
            }
        }
        int sum = 0;
        for (int desk = 0; desk < desks; desk++) {
            sum += byHand.counts(desk);
        }
        Check.due("play(" + seed + ", 60)", played.play(seed, turns), sum);
        for (int desk = 0; desk < desks; desk++) {
            Check.due("counts", played.counts(desk), byHand.counts(desk));
            for (int what = 0; what < 6; what++) {
                Check.due("conflict", played.conflict(desk, 1, what), byHand.conflict(desk, 1, what));
            }
            for (int v = 0; v < 5; v++) {
                Check.due("find", played.find(desk, 1, v, 1), byHand.find(desk, 1, v, 1));
                Check.due("known", played.known(desk, v, 0, 2, 9), byHand.known(desk, v, 0, 2, 9));
            }
            Check.due("the next number", played.tell(desk, 0, 0, 0, 0), byHand.tell(desk, 0, 0, 0, 0));
            Check.due("the clock", played.known(desk, 0, 0, 0, 30), byHand.known(desk, 0, 0, 0, 30));
        }
    }

    /** Seed 0 draws 167951807, 218396424, 1299921937, 861605236, 823830125, 1204436891. */
    private static void aFactToldByHand() {
        ToldFacts facts = Check.withDesks(2);
        Check.due("play(0, 1)", facts.play(0, 1), 1);
        Check.due("at desk 1", facts.counts(1), 1);
        Check.due("of thing 1, kind 0, day 2, value 1", facts.known(1, 1, 0, 2, 1), 1);
        Check.due("of no day before", facts.known(1, 1, 0, 1, 1), Check.NOTHING);
        Check.due("its number", facts.find(1, 0, 1, 0), 1);
    }

    /** Seed 11 draws 1875213496, 1259486851, 169050143; seed 3 draws 243117059, 697555963, 1577179715. */
    private static void joinsByHand() {
        ToldFacts facts = Check.withDesks(3);
        facts.tell(2, 1, 1, 1, 5);
        facts.tell(2, 1, 1, 1, 6);
        Check.due("play(3, 1): desk 2 with itself is refused", facts.play(3, 1), 2);
        Check.due("play(11, 1): desk 1 joins desk 2", facts.play(11, 1), 4);
        Check.due("counts(0)", facts.counts(0), 0);
        Check.due("equal(1, 2)", facts.equal(1, 2), true);
        facts.tell(1, 2, 2, 2, 7);
        Check.due("with its clock: at 2", facts.known(1, 2, 2, 2, 2), Check.NOTHING);
        Check.due("at 3", facts.known(1, 2, 2, 2, 3), 7);
    }

    private static void turnsAtTheEdges() {
        ToldFacts facts = Check.withDesks(1);
        facts.tell(0, 1, 1, 1, 1);
        int[] wrong = {-1, 201, Integer.MIN_VALUE, Integer.MAX_VALUE};
        for (int turns : wrong) {
            Check.due("play(5, " + turns + ")", facts.play(5, turns), Check.NONE);
        }
        Check.due("counts", facts.counts(0), 1);
        Check.due("no turns", facts.play(5, 0), 1);
        Check.due("the number after it", facts.tell(0, 1, 1, 1, 1), 8);
        int before = facts.counts(0);
        Check.due("200 turns are taken", facts.play(5, 200) > before + 100, true);
    }

    private static void noDesks() {
        ToldFacts facts = new ToldFacts();
        int[] turns = {-1, 0, 1, 200, 201};
        for (int t : turns) {
            Check.due("no desks", facts.play(1, t), Check.NONE);
        }
    }

    private static void batchesTakeWhatIsPlayed() {
        ToldFacts facts = Check.withDesks(1);
        facts.batch(0);
        Check.due("play(1, 40)", facts.play(1, 40), 0);
        Check.due("endBatch(0)", facts.endBatch(0), true);
        ToldFacts other = Check.withDesks(1);
        Check.due("as many as without", other.play(1, 40), facts.counts(0));
    }

    private static void playedUntilFull() {
        ToldFacts facts = Check.withDesks(8);
        for (int seed = 0; seed < 4; seed++) {
            facts.play(seed, 200);
        }
        Check.due("full", facts.tell(0, 1, 1, 1, 1), Check.FULL);
        for (int desk = 1; desk < 8; desk++) {
            facts.join(0, desk);
        }
        Check.due("300 in all", facts.counts(0), 300);
        for (int desk = 1; desk < 8; desk++) {
            facts.join(desk, 0);
        }
        Check.due("joins of a play go on when full", facts.play(9, 200), 2400);
    }
}
