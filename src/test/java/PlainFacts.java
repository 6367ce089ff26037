import java.util.ArrayList;
import java.util.Comparator;
import java.util.HashSet;
import java.util.List;
import java.util.Set;
import java.util.TreeMap;

/** The promises a second time, written with the Java library in the plainest way, to compare with. */
final class PlainFacts {
    static final int NONE = -1;
    static final int FULL = -2;

    private record Spot(int thing, int kind, long day) {
    }

    private static final class Fact {
        int number;
        Spot spot;
        long value;
        long time;
        final List<Fact> replaces = new ArrayList<>();
    }

    private static final class Desk {
        long clock = 0;
        int told = 0;
        final Set<Fact> knows = new HashSet<>();
        Batch open = null;
    }

    private static final class Batch {
        Desk desk;
        boolean ended = false;
        final List<Fact> facts = new ArrayList<>();
    }

    private static final Comparator<Fact> BY_NUMBER = Comparator.comparingInt(f -> f.number);
    private static final Comparator<Spot> BY_SPOT = Comparator.comparingInt(Spot::thing)
            .thenComparingInt(Spot::kind).thenComparingLong(Spot::day);

    private final List<Desk> desks = new ArrayList<>();
    private final List<Batch> batches = new ArrayList<>();
    private int told = 0;

    int desk() {
        if (desks.size() == 8) {
            return FULL;
        }
        desks.add(new Desk());
        return desks.size() - 1;
    }

    int tell(int desk, int thing, int kind, long day, long v) {
        if (isNone(desk) || thing < 0 || thing > 99 || kind < 0 || kind > 9 || day < 0 || day > 100_000) {
            return NONE;
        }
        return tellNew(desk, new Spot(thing, kind, day), v, List.of());
    }

    int correct(int desk, int fact, long v) {
        if (isNone(desk)) {
            return NONE;
        }
        for (Fact old : standing(desks.get(desk).knows)) {
            if (old.number == fact) {
                return tellNew(desk, old.spot, v, List.of(old));
            }
        }
        return NONE;
    }

    int join(int desk, int other) {
        if (isNone(desk) || isNone(other) || desk == other) {
            return NONE;
        }
        Desk at = desks.get(desk);
        at.knows.addAll(desks.get(other).knows);
        at.clock = Math.max(at.clock, desks.get(other).clock);
        return conflicts(desk).size();
    }

    long known(int desk, int thing, int kind, long day, long on) {
        if (isNone(desk)) {
            return Long.MIN_VALUE;
        }
        List<Fact> then = new ArrayList<>();
        for (Fact f : desks.get(desk).knows) {
            if (f.time <= on) {
                then.add(f);
            }
        }
        return standing(then).stream()
                .filter(f -> f.spot.thing == thing && f.spot.kind == kind && f.spot.day <= day)
                .max(Comparator.comparingLong((Fact f) -> f.spot.day)
                        .thenComparingLong(f -> f.time).thenComparingInt(f -> f.number))
                .map(f -> f.value).orElse(Long.MIN_VALUE);
    }

    int conflict(int desk, int k, int what) {
        if (isNone(desk)) {
            return NONE;
        }
        List<Spot> spots = new ArrayList<>(conflicts(desk).keySet());
        if (k < 0 || k >= spots.size()) {
            return NONE;
        }
        Spot spot = spots.get(k);
        List<Fact> there = conflicts(desk).get(spot);
        List<Integer> row = new ArrayList<>(List.of(spot.thing, spot.kind, (int) spot.day, there.size()));
        for (Fact f : there) {
            row.add(f.number);
        }
        return what < 0 || what >= row.size() ? NONE : row.get(what);
    }

    int settle(int desk, int thing, int kind, int which) {
        if (isNone(desk)) {
            return NONE;
        }
        for (var entry : conflicts(desk).entrySet()) {
            if (entry.getKey().thing == thing && entry.getKey().kind == kind) {
                List<Fact> there = entry.getValue();
                if (which < 0 || which >= there.size()) {
                    return NONE;
                }
                return tellNew(desk, entry.getKey(), there.get(which).value, there);
            }
        }
        return NONE;
    }

    boolean equal(int desk, int other) {
        return !isNone(desk) && !isNone(other) && desks.get(desk).knows.equals(desks.get(other).knows);
    }

    int batch(int desk) {
        if (isNone(desk) || desks.get(desk).open != null) {
            return NONE;
        }
        if (batches.size() == 40) {
            return FULL;
        }
        Batch batch = new Batch();
        batch.desk = desks.get(desk);
        batch.desk.open = batch;
        batches.add(batch);
        return batches.size() - 1;
    }

    boolean endBatch(int batch) {
        if (batch < 0 || batch >= batches.size() || batches.get(batch).ended) {
            return false;
        }
        Batch ending = batches.get(batch);
        ending.ended = true;
        ending.desk.open = null;
        ending.desk.knows.addAll(ending.facts);
        return true;
    }

    int play(long seed, int turns) {
        if (desks.isEmpty() || turns < 0 || turns > 200) {
            return NONE;
        }
        long[] x = {seed};
        for (int turn = 0; turn < turns; turn++) {
            int desk = draw(x, desks.size());
            if (draw(x, 4) < 3) {
                int thing = draw(x, 4);
                int kind = draw(x, 2);
                int day = draw(x, 3);
                int value = draw(x, 5);
                tell(desk, thing, kind, day, value);
            } else {
                join(desk, draw(x, desks.size()));
            }
        }
        int sum = 0;
        for (Desk desk : desks) {
            sum += desk.knows.size();
        }
        return sum;
    }

    int find(int desk, int kind, long v, int k) {
        if (isNone(desk)) {
            return NONE;
        }
        List<Fact> found = new ArrayList<>();
        for (Fact f : desks.get(desk).knows) {
            if (f.spot.kind == kind && f.value == v) {
                found.add(f);
            }
        }
        found.sort(BY_NUMBER);
        return k < 0 || k >= found.size() ? NONE : found.get(k).number;
    }

    int counts(int desk) {
        return isNone(desk) ? NONE : desks.get(desk).knows.size();
    }

    private static int draw(long[] x, int modulo) {
        x[0] = x[0] * 6364136223846793005L + 1442695040888963407L;
        return (int) ((x[0] >>> 33) % modulo);
    }

    private boolean isNone(int desk) {
        return desk < 0 || desk >= desks.size();
    }

    private int tellNew(int desk, Spot spot, long v, List<Fact> replaced) {
        if (told == 300) {
            return FULL;
        }
        told++;
        Desk at = desks.get(desk);
        at.clock++;
        Fact fact = new Fact();
        fact.number = 8 * at.told + desk;
        fact.spot = spot;
        fact.value = v;
        fact.time = at.clock;
        fact.replaces.addAll(replaced);
        at.told++;
        if (at.open != null) {
            at.open.facts.add(fact);
        } else {
            at.knows.add(fact);
        }
        return fact.number;
    }

    private static List<Fact> standing(Iterable<Fact> among) {
        Set<Fact> replaced = new HashSet<>();
        for (Fact f : among) {
            replaced.addAll(f.replaces);
        }
        List<Fact> stand = new ArrayList<>();
        for (Fact f : among) {
            if (!replaced.contains(f)) {
                stand.add(f);
            }
        }
        stand.sort(BY_NUMBER);
        return stand;
    }

    private TreeMap<Spot, List<Fact>> conflicts(int desk) {
        TreeMap<Spot, List<Fact>> stand = new TreeMap<>(BY_SPOT);
        for (Fact f : standing(desks.get(desk).knows)) {
            stand.computeIfAbsent(f.spot, s -> new ArrayList<>()).add(f);
        }
        stand.values().removeIf(there -> there.stream().map(f -> f.value).distinct().count() < 2);
        return stand;
    }
}
