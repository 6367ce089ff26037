import java.math.BigInteger;

/** Promise 12: turns by drawn numbers, each as if its calls were made by hand. */
public final class PlayTest {
    private static final long[] SEEDS = {0, 1, -1, 77, 1L << 33, Long.MIN_VALUE, Long.MAX_VALUE};

    private static final BigInteger ALL = BigInteger.ONE.shiftLeft(64);
    private static final BigInteger FACTOR = new BigInteger("6364136223846793005");
    private static final BigInteger MORE = new BigInteger("1442695040888963407");

    private long x;

    public static void main(String[] args) {
        for (long seed : SEEDS) {
            for (int desks = 1; desks <= 8; desks++) {
                new PlayTest().comparedWithCallsByHand(seed, desks);
            }
        }
        aFactToldByHand();
        joinsByHand();
        turnsAtTheEdges();
        noDesks();
        batchesTakeWhatIsPlayed();
        playedUntilFull();
        drawnIn64Bits();
        eachNumberIsNotSigned();
        turnsFrom0To200();
        turnsAddUp();
        playWhenFull();
        refusedChangesNothing();
        Check.end("PlayTest");
    }

    private int draw(int modulo) {
        x = x * 6364136223846793005L + 1442695040888963407L;
        return (int) ((x >>> 33) % modulo);
    }

    /** By calls of the face alone; below 60 turns both objects stay under 512 calls. */
    private void comparedWithCallsByHand(long seed, int desks) {
        ToldFacts played = Check.withDesks(desks);
        ToldFacts byHand = Check.withDesks(desks);
        int turns = 60;
        x = seed;
        for (int turn = 0; turn < turns; turn++) {
            int desk = draw(desks);
            if (draw(4) < 3) {
                int thing = draw(4);
                int kind = draw(2);
                int day = draw(3);
                byHand.tell(desk, thing, kind, day, draw(5));
            } else {
                byHand.join(desk, draw(desks));
            }
        }
        int sum = 0;
        for (int desk = 0; desk < desks; desk++) {
            sum += byHand.counts(desk);
        }
        Check.due("play(" + seed + ", 60)", played.play(seed, turns), sum);
        for (int desk = 0; desk < desks; desk++) {
            Check.due("counts", played.counts(desk), byHand.counts(desk));
            for (int what = 0; what < 6; what++) {
                Check.due("conflict", played.conflict(desk, 1, what), byHand.conflict(desk, 1, what));
            }
            for (int v = 0; v < 5; v++) {
                Check.due("find", played.find(desk, 1, v, 1), byHand.find(desk, 1, v, 1));
                Check.due("known", played.known(desk, v, 0, 2, 9), byHand.known(desk, v, 0, 2, 9));
            }
            Check.due("the next number", played.tell(desk, 0, 0, 0, 0), byHand.tell(desk, 0, 0, 0, 0));
            Check.due("the clock", played.known(desk, 0, 0, 0, 30), byHand.known(desk, 0, 0, 0, 30));
        }
    }

    /** Seed 0 draws 167951807, 218396424, 1299921937, 861605236, 823830125, 1204436891. */
    private static void aFactToldByHand() {
        ToldFacts facts = Check.withDesks(2);
        Check.due("play(0, 1)", facts.play(0, 1), 1);
        Check.due("at desk 1", facts.counts(1), 1);
        Check.due("of thing 1, kind 0, day 2, value 1", facts.known(1, 1, 0, 2, 1), 1);
        Check.due("of no day before", facts.known(1, 1, 0, 1, 1), Check.NOTHING);
        Check.due("its number", facts.find(1, 0, 1, 0), 1);
    }

    /** Seed 11 draws 1875213496, 1259486851, 169050143; seed 3 draws 243117059, 697555963, 1577179715. */
    private static void joinsByHand() {
        ToldFacts facts = Check.withDesks(3);
        facts.tell(2, 1, 1, 1, 5);
        facts.tell(2, 1, 1, 1, 6);
        Check.due("play(3, 1): desk 2 with itself is refused", facts.play(3, 1), 2);
        Check.due("play(11, 1): desk 1 joins desk 2", facts.play(11, 1), 4);
        Check.due("counts(0)", facts.counts(0), 0);
        Check.due("equal(1, 2)", facts.equal(1, 2), true);
        facts.tell(1, 2, 2, 2, 7);
        Check.due("with its clock: at 2", facts.known(1, 2, 2, 2, 2), Check.NOTHING);
        Check.due("at 3", facts.known(1, 2, 2, 2, 3), 7);
    }

    private static void turnsAtTheEdges() {
        ToldFacts facts = Check.withDesks(1);
        facts.tell(0, 1, 1, 1, 1);
        int[] wrong = {-1, 201, Integer.MIN_VALUE, Integer.MAX_VALUE};
        for (int turns : wrong) {
            Check.due("play(5, " + turns + ")", facts.play(5, turns), Check.NONE);
        }
        Check.due("counts", facts.counts(0), 1);
        Check.due("no turns", facts.play(5, 0), 1);
        Check.due("the number after it", facts.tell(0, 1, 1, 1, 1), 8);
        int before = facts.counts(0);
        Check.due("200 turns are taken", facts.play(5, 200) > before + 100, true);
    }

    private static void noDesks() {
        ToldFacts facts = new ToldFacts();
        int[] turns = {-1, 0, 1, 200, 201};
        for (int t : turns) {
            Check.due("no desks", facts.play(1, t), Check.NONE);
        }
    }

    private static void batchesTakeWhatIsPlayed() {
        ToldFacts facts = Check.withDesks(1);
        facts.batch(0);
        Check.due("play(1, 40)", facts.play(1, 40), 0);
        Check.due("endBatch(0)", facts.endBatch(0), true);
        ToldFacts other = Check.withDesks(1);
        Check.due("as many as without", other.play(1, 40), facts.counts(0));
    }

    private static void playedUntilFull() {
        ToldFacts facts = Check.withDesks(8);
        for (int seed = 0; seed < 4; seed++) {
            facts.play(seed, 200);
        }
        Check.due("full", facts.tell(0, 1, 1, 1, 1), Check.FULL);
        for (int desk = 1; desk < 8; desk++) {
            facts.join(0, desk);
        }
        Check.due("300 in all", facts.counts(0), 300);
        for (int desk = 1; desk < 8; desk++) {
            facts.join(desk, 0);
        }
        Check.due("joins of a play go on when full", facts.play(9, 200), 2400);
    }

    /** The numbers by BigInteger, one turn a call, each with the state that the turns before have left. */
    private static void drawnIn64Bits() {
        int[] modulo = {1, 4, 4, 2, 3, 5};
        for (long seed : SEEDS) {
            ToldFacts facts = Check.withDesks(1);
            BigInteger state = BigInteger.valueOf(seed).mod(ALL);
            int told = 0;
            for (int turn = 0; turn < 15; turn++) {
                long before = state.longValue();
                int[] drawn = new int[6];
                boolean isTold = true;
                for (int i = 0; i < (isTold ? 6 : 3); i++) {
                    state = state.multiply(FACTOR).add(MORE).mod(ALL);
                    drawn[i] = state.shiftRight(33).mod(BigInteger.valueOf(modulo[i])).intValue();
                    isTold = drawn[1] < 3;
                }
                told += isTold ? 1 : 0;
                Check.due("play(" + before + ", 1)", facts.play(before, 1), told);
                if (isTold) {
                    // The newest one has the greatest time, and that is how many were told at the one desk.
                    Check.due("its value", facts.known(0, drawn[2], drawn[3], drawn[4], told), drawn[5]);
                }
            }
        }
    }

    /** The first number's state is at its ends: x >>> 33 has 31 bits and is never negative. */
    private static void eachNumberIsNotSigned() {
        long[] states = {
            Long.MIN_VALUE, -(1L << 33), -1, 0, (1L << 33) - 1, 1L << 33, 6L << 33, 7L << 33, Long.MAX_VALUE};
        for (long state : states) {
            ToldFacts facts = Check.withDesks(7);
            for (int desk = 0; desk < 7; desk++) {
                facts.tell(desk, 50, 9, 0, desk);
            }
            long seed = BigInteger.valueOf(state).subtract(MORE).multiply(FACTOR.modInverse(ALL)).mod(ALL).longValue();
            PlayTest draws = new PlayTest();
            draws.x = state;
            boolean isTold = draws.draw(4) < 3;
            int due = (int) ((state >>> 33) % 7);
            boolean isMore = isTold || draws.draw(7) != due;
            Check.due("play", facts.play(seed, 1), isMore ? 8 : 7);
            for (int desk = 0; desk < 7; desk++) {
                Check.due("counts(" + desk + ")", facts.counts(desk), desk == due && isMore ? 2 : 1);
            }
        }
    }

    private static void turnsFrom0To200() {
        int[] taken = {0, 1, 199, 200};
        for (int turns : taken) {
            Check.taken("play(5, " + turns + ")", Check.withDesks(2).play(5, turns));
        }
        int[] none = {Integer.MIN_VALUE, Integer.MIN_VALUE + 1, -200, -2, -1, 201, 202, Integer.MAX_VALUE};
        for (int turns : none) {
            Check.due("play(5, " + turns + ")", Check.withDesks(2).play(5, turns), Check.NONE);
        }
        Check.due("no turns on a new desk", Check.withDesks(1).play(5, 0), 0);
        Check.due("the seed is free: least", Check.withDesks(8).play(Long.MIN_VALUE, 0), 0);
        Check.due("the seed is free: greatest", Check.withDesks(8).play(Long.MAX_VALUE, 0), 0);
    }

    /** The last of 200 turns is done, and none after it: as by plays of one turn with the states between. */
    private static void turnsAddUp() {
        for (int desks = 1; desks <= 8; desks += 7) {
            ToldFacts whole = Check.withDesks(desks);
            ToldFacts parts = Check.withDesks(desks);
            PlayTest draws = new PlayTest();
            draws.x = 12345;
            int sum = 0;
            for (int turn = 0; turn < 200; turn++) {
                long seed = draws.x;
                draws.draw(desks);
                int numbers = draws.draw(4) < 3 ? 4 : 1;
                for (int i = 0; i < numbers; i++) {
                    draws.draw(1);
                }
                sum = parts.play(seed, 1);
                Check.taken("one turn", sum);
            }
            Check.due("play(12345, 200)", whole.play(12345, 200), sum);
            for (int desk = 0; desk < desks; desk++) {
                Check.due("counts", whole.counts(desk), parts.counts(desk));
                Check.due("equal", whole.equal(0, desk), parts.equal(0, desk));
                Check.due("conflict", whole.conflict(desk, 3, 4), parts.conflict(desk, 3, 4));
                Check.due("the next number", whole.tell(desk, 9, 9, 9, 9), parts.tell(desk, 9, 9, 9, 9));
                Check.due("its time", Check.timeOf(whole, desk, 9, 9, 9), Check.timeOf(parts, desk, 9, 9, 9));
            }
        }
    }

    /** A turn that would tell finds no room and draws all the same; with one desk nothing else can change. */
    private static void playWhenFull() {
        ToldFacts facts = Check.withDesks(1);
        Check.fill(facts, 0, 299);
        Check.due("one turn, seed 0: the 300th", facts.play(0, 1), 300);
        Check.due("play(0, 200)", facts.play(0, 200), 300);
        Check.due("full", facts.tell(0, 1, 1, 1, 1), Check.FULL);
        Check.due("the 300th", facts.find(0, 0, 1, 0), 8 * 299);
        ToldFacts two = Check.withDesks(2);
        Check.fill(two, 0, 300);
        Check.due("joins are done", two.play(0, 200), 600);
        Check.due("equal(0, 1)", two.equal(0, 1), true);
    }

    private static void refusedChangesNothing() {
        for (int turns : new int[] {Integer.MIN_VALUE, -1, 201, Integer.MAX_VALUE}) {
            Twins.noEffect("play(1, " + turns + ")", Twins::few, Check.NONE, x -> x.play(1, turns));
            Twins.noEffect("play(1, " + turns + ") when full", Twins::full, Check.NONE, x -> x.play(1, turns));
            Twins.noEffect("play(1, " + turns + ") at no desk", Twins::nothing, Check.NONE, x -> x.play(1, turns));
        }
        for (int turns : new int[] {0, 1, 200}) {
            Twins.noEffect("play(1, " + turns + ") at no desk", Twins::nothing, Check.NONE, x -> x.play(1, turns));
        }
        Twins.noEffect("no turns", Twins::few, 6, x -> x.play(1, 0));
    }
}
