import java.util.ArrayList;
import java.util.List;
import java.util.Random;

/**
 * Promises 2 to 5, 8 and 10 to 12: a refused call, and one that finds no room, changes nothing. An object that
 * is given such calls between the others answers all later ones as its twin that is not.
 */
public final class RefusedTest {
    private final ToldFacts plagued = new ToldFacts();
    private final ToldFacts twin = new ToldFacts();
    private final Random random;
    private int desks = 0;
    private boolean isFull = false;
    private int batches = 0;

    private RefusedTest(long seed) {
        random = new Random(seed);
    }

    public static void main(String[] args) {
        for (long seed = 0; seed < 300; seed++) {
            new RefusedTest(seed).run(seed % 3 == 0 ? 8 : 3, seed % 2 == 0);
        }
        Check.end("RefusedTest");
    }

    private void run(int wantedDesks, boolean toTheBrim) {
        refuseSome(3);
        for (int desk = 0; desk < wantedDesks; desk++) {
            both("desk", plagued.desk(), twin.desk());
            desks++;
        }
        for (int i = 0; i < 40; i++) {
            change();
            refuseSome(1);
        }
        if (toTheBrim) {
            fill();
        }
        refuseSome(30);
        compareAll();
    }

    private void both(String call, long got, long want) {
        Check.due(call, got, want);
    }

    private void tell() {
        int desk = random.nextInt(desks);
        int thing = random.nextInt(2);
        int day = random.nextInt(2);
        int v = random.nextInt(3);
        both("tell", plagued.tell(desk, thing, 1, day, v), twin.tell(desk, thing, 1, day, v));
    }

    /** By plays, so that both stay under 512 calls. */
    private void fill() {
        for (int seed = 0; seed < 4; seed++) {
            both("play", plagued.play(seed, 200), twin.play(seed, 200));
        }
        Check.due("tell when full", twin.tell(0, 0, 0, 0, 0), Check.FULL);
        isFull = true;
    }

    private void change() {
        int desk = random.nextInt(desks);
        int other = random.nextInt(desks);
        switch (random.nextInt(5)) {
            case 0 -> both("join", plagued.join(desk, other), twin.join(desk, other));
            case 1 -> {
                int fact = random.nextInt(40);
                both("correct", plagued.correct(desk, fact, 9), twin.correct(desk, fact, 9));
            }
            case 2 -> {
                int begun = twin.batch(desk);
                batches = Math.max(batches, begun + 1);
                both("batch", plagued.batch(desk), begun);
            }
            case 3 -> {
                int batch = random.nextInt(batches + 1);
                both("endBatch", plagued.endBatch(batch) ? 1 : 0, twin.endBatch(batch) ? 1 : 0);
            }
            default -> tell();
        }
    }

    /** Only at the one of the two. */
    private void refuseSome(int many) {
        int[] none = {-1, desks, 8, Integer.MIN_VALUE, Integer.MAX_VALUE};
        for (int i = 0; i < many; i++) {
            int no = none[random.nextInt(none.length)];
            int desk = desks == 0 ? 0 : random.nextInt(desks);
            List<Long> answers = new ArrayList<>();
            switch (random.nextInt(8)) {
                case 0 -> answers.add((long) plagued.tell(no, 1, 1, 1, 1));
                case 1 -> answers.add((long) plagued.tell(desk, 100, 1, 1, 1));
                case 2 -> answers.add((long) plagued.correct(desk, 2399, 1));
                case 3 -> answers.add((long) plagued.join(desk, random.nextBoolean() ? no : desk));
                case 4 -> answers.add((long) plagued.settle(desk, 1, 1, 300));
                case 5 -> answers.add((long) plagued.batch(no));
                case 6 -> answers.add(plagued.endBatch(batches) ? 1L : -1L);
                default -> answers.add((long) plagued.play(1, 201));
            }
            if (isFull) {
                answers.add((long) plagued.tell(desk, 1, 1, 1, 1));
                answers.add((long) plagued.settle(desk, 0, 1, 0));
                answers.add((long) plagued.settle(desk, 1, 1, 0));
                answers.add((long) plagued.correct(desk, random.nextInt(300), 1));
            }
            if (desks == 8) {
                answers.add((long) plagued.desk());
            }
            for (long answer : answers) {
                Check.due("a call without effect is refused or full", answer < 0, true);
            }
        }
    }

    private void compareAll() {
        for (int desk = 0; desk < desks; desk++) {
            both("counts", plagued.counts(desk), twin.counts(desk));
            both("equal", plagued.equal(desk, 0) ? 1 : 0, twin.equal(desk, 0) ? 1 : 0);
            both("find", plagued.find(desk, 1, 2, 3), twin.find(desk, 1, 2, 3));
            both("find none of the refused", plagued.find(desk, 1, 1, 40), twin.find(desk, 1, 1, 40));
            both("conflict", plagued.conflict(desk, 0, 3), twin.conflict(desk, 0, 3));
            both("conflict", plagued.conflict(desk, 0, 6), twin.conflict(desk, 0, 6));
            both("known", plagued.known(desk, 1, 1, 1, 20), twin.known(desk, 1, 1, 1, 20));
        }
        both("desk", plagued.desk(), twin.desk());
        both("batch", plagued.batch(0), twin.batch(0));
        both("settle", plagued.settle(1, 1, 1, 0), twin.settle(1, 1, 1, 0));
        both("tell", plagued.tell(1, 5, 5, 5, 5), twin.tell(1, 5, 5, 5, 5));
        both("tell in the batch", plagued.tell(0, 5, 5, 5, 6), twin.tell(0, 5, 5, 5, 6));
        for (int batch = 0; batch <= batches; batch++) {
            both("endBatch", plagued.endBatch(batch) ? 1 : 0, twin.endBatch(batch) ? 1 : 0);
        }
        for (int desk = 1; desk < desks; desk++) {
            both("join", plagued.join(0, desk), twin.join(0, desk));
        }
        both("counts(0)", plagued.counts(0), twin.counts(0));
        for (int on = 0; on < 60; on++) {
            both("known at " + on, plagued.known(0, 5, 5, 5, on), twin.known(0, 5, 5, 5, on));
        }
    }
}
