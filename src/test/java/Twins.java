import java.util.ArrayList;
import java.util.List;

/**
 * Objects made in pairs by the same calls, of which one is given a call that must have no effect: refused, or FULL.
 * Whatever is asked of both after that must be answered alike. Each way of asking has a new pair, as an object is
 * good for 512 calls and most ways of asking change it.
 */
final class Twins {
    interface Build {
        void make(ToldFacts facts);
    }

    interface Call {
        long on(ToldFacts facts);
    }

    private interface Probe {
        void ask(ToldFacts facts, Answers seen);
    }

    /** What one object answered, each with the call. */
    private static final class Answers {
        final List<String> calls = new ArrayList<>();
        final List<Long> given = new ArrayList<>();

        void add(String call, long answer) {
            calls.add(call);
            given.add(answer);
        }

        void add(String call, boolean answer) {
            add(call, answer ? 1 : 0);
        }
    }

    private static final Probe[] PROBES = {
        Twins::countsAndEquals, Twins::conflicts, Twins::valuesKnown, Twins::numbersAndClocks, Twins::newBatches,
        Twins::endsOfBatches, Twins::newDesks, Twins::corrections, Twins::settlings, Twins::joins, Twins::plays};

    private Twins() {
    }

    static void nothing(ToldFacts facts) {
    }

    /**
     * Desk 0 knows 0 (replaced), 8 and 16 (in conflict at thing 1, kind 1, day 5) and 1; desk 1 knows 1 and has the
     * open batch 0 with fact 9; desk 2 knows 2, by the ended batch 1. Their clocks are 3, 2 and 1.
     */
    static void few(ToldFacts facts) {
        for (int desk = 0; desk < 3; desk++) {
            Check.due("desk()", facts.desk(), desk);
        }
        Check.due("fact 0", facts.tell(0, 1, 1, 5, 50), 0);
        Check.due("fact 8", facts.correct(0, 0, 55), 8);
        Check.due("fact 16", facts.tell(0, 1, 1, 5, 60), 16);
        Check.due("fact 1", facts.tell(1, 2, 0, 0, 7), 1);
        Check.due("join(0, 1)", facts.join(0, 1), 1);
        Check.due("batch 0", facts.batch(1), 0);
        Check.due("fact 9", facts.tell(1, 2, 0, 0, 8), 9);
        Check.due("batch 1", facts.batch(2), 1);
        Check.due("fact 2", facts.tell(2, 3, 9, 100_000, -5), 2);
        Check.due("the end of batch 1", facts.endBatch(1), true);
    }

    /** Eight desks, what few() makes, forty batches of which 0 is still open at desk 1, and 300 facts. */
    static void full(ToldFacts facts) {
        few(facts);
        for (int desk = 3; desk < 8; desk++) {
            Check.due("desk()", facts.desk(), desk);
        }
        for (int batch = 2; batch < 40; batch++) {
            Check.due("batch " + batch, facts.batch(7), batch);
            Check.due("its end", facts.endBatch(batch), true);
        }
        for (int seed = 0; seed < 4; seed++) {
            facts.play(seed, 200);
        }
        Check.due("a 301st fact", facts.tell(7, 0, 0, 0, 0), Check.FULL);
    }

    static void noEffect(String what, Build build, long due, Call call) {
        for (Probe probe : PROBES) {
            ToldFacts given = new ToldFacts();
            ToldFacts spared = new ToldFacts();
            build.make(given);
            build.make(spared);
            Check.due(what, call.on(given), due);
            Check.due(what + ", again", call.on(given), due);
            compare(what, probe, given, spared);
        }
    }

    private static void compare(String what, Probe probe, ToldFacts given, ToldFacts spared) {
        Answers got = new Answers();
        Answers want = new Answers();
        probe.ask(given, got);
        probe.ask(spared, want);
        Check.due(what + ": as many answers", got.given.size(), want.given.size());
        for (int i = 0; i < want.given.size(); i++) {
            Check.due(what + ", then " + want.calls.get(i), got.given.get(i), want.given.get(i));
        }
    }

    private static void countsAndEquals(ToldFacts facts, Answers seen) {
        for (int desk = -1; desk <= 8; desk++) {
            seen.add("counts(" + desk + ")", facts.counts(desk));
            for (int other = 0; other < 8; other++) {
                seen.add("equal(" + desk + ", " + other + ")", facts.equal(desk, other));
            }
        }
    }

    private static void conflicts(ToldFacts facts, Answers seen) {
        for (int desk = 0; desk < 8; desk++) {
            for (int k = 0; k < 3; k++) {
                for (int what = 0; what < 7; what++) {
                    seen.add("conflict(" + desk + ", " + k + ", " + what + ")", facts.conflict(desk, k, what));
                }
            }
        }
    }

    private static void valuesKnown(ToldFacts facts, Answers seen) {
        for (int desk = 0; desk < 8; desk++) {
            for (int on = 0; on < 6; on++) {
                seen.add("known at " + on, facts.known(desk, 1, 1, 5, on));
                seen.add("known at " + on, facts.known(desk, 2, 0, 0, on));
            }
            seen.add("known of the last day", facts.known(desk, 3, 9, 100_000, Long.MAX_VALUE));
            for (int v = 0; v < 5; v++) {
                seen.add("find of " + v, facts.find(desk, 1, v, 0));
            }
            seen.add("find of 1, a later one", facts.find(desk, 1, 1, 7));
        }
    }

    private static void numbersAndClocks(ToldFacts facts, Answers seen) {
        for (int desk = 0; desk < 8; desk++) {
            seen.add("the next fact of desk " + desk, facts.tell(desk, 50, 5, 50, 1000 + desk));
            seen.add("its time", Check.timeOf(facts, desk, 50, 5, 50));
        }
    }

    private static void newBatches(ToldFacts facts, Answers seen) {
        for (int desk = 0; desk < 8; desk++) {
            seen.add("batch(" + desk + ")", facts.batch(desk));
            seen.add("a fact after it", facts.tell(desk, 50, 5, 50, 1000 + desk));
            seen.add("counts", facts.counts(desk));
        }
    }

    private static void endsOfBatches(ToldFacts facts, Answers seen) {
        for (int batch = 0; batch <= 40; batch++) {
            seen.add("endBatch(" + batch + ")", facts.endBatch(batch));
        }
        numbersAndClocks(facts, seen);
        countsAndEquals(facts, seen);
    }

    private static void newDesks(ToldFacts facts, Answers seen) {
        for (int call = 0; call < 9; call++) {
            seen.add("desk()", facts.desk());
            seen.add("counts of the newest", facts.counts(call));
        }
        numbersAndClocks(facts, seen);
    }

    private static void corrections(ToldFacts facts, Answers seen) {
        for (int desk = 0; desk < 8; desk++) {
            for (int fact = 0; fact < 25; fact++) {
                seen.add("correct(" + desk + ", " + fact + ")", facts.correct(desk, fact, 1000 + fact));
            }
        }
    }

    private static void settlings(ToldFacts facts, Answers seen) {
        for (int desk = 0; desk < 8; desk++) {
            for (int thing = 0; thing < 4; thing++) {
                for (int kind = 0; kind < 2; kind++) {
                    seen.add("settle(" + desk + ", " + thing + ", " + kind + ")",
                            facts.settle(desk, thing, kind, 1));
                }
            }
        }
    }

    private static void joins(ToldFacts facts, Answers seen) {
        for (int desk = 0; desk < 8; desk++) {
            for (int other = 0; other < 8; other++) {
                seen.add("join(" + desk + ", " + other + ")", facts.join(desk, other));
            }
            seen.add("counts(" + desk + ")", facts.counts(desk));
        }
        numbersAndClocks(facts, seen);
    }

    private static void plays(ToldFacts facts, Answers seen) {
        seen.add("play(77, 50)", facts.play(77, 50));
        countsAndEquals(facts, seen);
        numbersAndClocks(facts, seen);
    }
}
