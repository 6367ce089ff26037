/** Facts told at desks, kept with their corrections, and what each desk knows of them. */
public final class ToldFacts {
    public static final int NONE = -1;
    public static final int FULL = -2;

    private static final int MOST_DESKS = 8;
    private static final int MOST_FACTS = 300;
    private static final int MOST_BATCHES = 40;
    private static final int MOST_TURNS = 200;
    private static final int THINGS = 100;
    private static final int KINDS = 10;
    private static final int DAYS = 100001;
    private static final long NOTHING_KNOWN = -9223372036854775808L;

    private final Desk[] desks;
    private final int[] batchDesks;
    private final Facts facts;
    /** Filled anew by each call that needs a set, so that no call makes one. */
    private final FactSet picked;
    private int deskCount;
    private int batchCount;

    public ToldFacts() {
        desks = new Desk[MOST_DESKS];
        batchDesks = new int[MOST_BATCHES];
        facts = new Facts();
        picked = new FactSet();
    }

    public int desk() {
        if (deskCount >= MOST_DESKS) {
            return FULL;
        }
        int number = deskCount;
        desks[number] = new Desk(number);
        deskCount++;
        return number;
    }

    public int tell(int desk, int thing, int kind, long day, long v) {
        Desk at = deskAt(desk);
        if (at == null || !areThingAndKind(thing, kind) || day < 0 || day >= DAYS) {
            return NONE;
        }
        picked.clear();
        return tellReplacing(at, spotOf(thing, kind, (int) day), v, picked);
    }

    public int correct(int desk, int fact, long v) {
        Desk at = deskAt(desk);
        int old = facts.withNumber(fact);
        if (at == null || old == NONE || !facts.standsAmong(at.knows, old)) {
            return NONE;
        }
        picked.clear();
        picked.add(old);
        return tellReplacing(at, facts.spots[old], v, picked);
    }

    public int join(int desk, int other) {
        Desk at = joined(desk, other);
        return at == null ? NONE : facts.countConflicts(at.knows);
    }

    public long known(int desk, int thing, int kind, long day, long on) {
        Desk at = deskAt(desk);
        if (at == null || !areThingAndKind(thing, kind)) {
            return NOTHING_KNOWN;
        }
        facts.pickToldBy(on, at.knows, picked);
        int latest = facts.latestStanding(picked, thing, kind, day);
        return latest == NONE ? NOTHING_KNOWN : facts.values[latest];
    }

    public int conflict(int desk, int k, int what) {
        Desk at = deskAt(desk);
        if (at == null || k < 0 || what < 0) {
            return NONE;
        }
        int spot = facts.conflictSpot(at.knows, 0, k);
        if (spot == NONE) {
            return NONE;
        }
        facts.pickStanding(at.knows, spot, picked);
        switch (what) {
            case 0:
                return thingOf(spot);
            case 1:
                return kindOf(spot);
            case 2:
                return dayOf(spot);
            case 3:
                return picked.size();
            default:
                return numberOrNone(facts.inOrder(picked, what - 4));
        }
    }

    public int settle(int desk, int thing, int kind, int which) {
        Desk at = deskAt(desk);
        if (at == null || !areThingAndKind(thing, kind)) {
            return NONE;
        }
        int spot = facts.conflictSpot(at.knows, spotOf(thing, kind, 0), 0);
        if (spot == NONE || spot > spotOf(thing, kind, DAYS - 1)) {
            return NONE;
        }
        facts.pickStanding(at.knows, spot, picked);
        int chosen = facts.inOrder(picked, which);
        if (chosen == NONE) {
            return NONE;
        }
        return tellReplacing(at, spot, facts.values[chosen], picked);
    }

    public boolean equal(int desk, int other) {
        Desk one = deskAt(desk);
        Desk two = deskAt(other);
        return one != null && two != null && one.knows.isSameAs(two.knows);
    }

    public int batch(int desk) {
        Desk at = deskAt(desk);
        if (at == null || at.openBatch != NONE) {
            return NONE;
        }
        if (batchCount >= MOST_BATCHES) {
            return FULL;
        }
        int number = batchCount;
        batchDesks[number] = desk;
        batchCount++;
        at.openBatch = number;
        return number;
    }

    public boolean endBatch(int batch) {
        if (batch < 0 || batch >= batchCount) {
            return false;
        }
        Desk at = deskAt(batchDesks[batch]);
        if (at == null || at.openBatch != batch) {
            return false;
        }
        at.learnPending();
        return true;
    }

    public int play(long seed, int turns) {
        if (deskCount < 1 || turns < 0 || turns > MOST_TURNS) {
            return NONE;
        }
        Draw draw = new Draw(seed);
        for (int turn = 0; turn < turns; turn++) {
            playTurn(draw);
        }
        int sum = 0;
        for (int desk = 0; desk < deskCount; desk++) {
            sum += counts(desk);
        }
        return sum;
    }

    public int find(int desk, int kind, long v, int k) {
        Desk at = deskAt(desk);
        if (at == null) {
            return NONE;
        }
        facts.pickEqual(at.knows, kind, v, picked);
        return numberOrNone(facts.inOrder(picked, k));
    }

    public int counts(int desk) {
        Desk at = deskAt(desk);
        return at == null ? NONE : at.knows.size();
    }

    private Desk deskAt(int number) {
        return number >= 0 && number < deskCount ? desks[number] : null;
    }

    private int numberOrNone(int fact) {
        return fact == NONE ? NONE : facts.numbers[fact];
    }

    /** The desk that now knows what the other does, or null, and nothing changes, when that is refused. */
    private Desk joined(int desk, int other) {
        Desk at = deskAt(desk);
        Desk from = deskAt(other);
        if (at == null || from == null || desk == other) {
            return null;
        }
        at.learnFrom(from);
        return at;
    }

    private int tellReplacing(Desk at, int spot, long value, FactSet replaced) {
        int number = at.nextNumber();
        int fact = facts.append(number, spot, value, at.nextTime(), replaced);
        if (fact == NONE) {
            return FULL;
        }
        at.hear(fact);
        return number;
    }

    /** The numbers are drawn also for a call that is then refused: the next turn depends on it. */
    private void playTurn(Draw draw) {
        int desk = draw.below(deskCount);
        if (draw.below(4) < 3) {
            int thing = draw.below(4);
            int kind = draw.below(2);
            int day = draw.below(3);
            int value = draw.below(5);
            tell(desk, thing, kind, day, value);
        } else {
            // Not join(): nobody asks for the conflicts here, and counting them is its dear part.
            joined(desk, draw.below(deskCount));
        }
    }

    private static boolean areThingAndKind(int thing, int kind) {
        return thing >= 0 && thing < THINGS && kind >= 0 && kind < KINDS;
    }

    /** One number for a spot, so that the order of the numbers is by things, kinds, days. */
    private static int spotOf(int thing, int kind, int day) {
        return (thing * KINDS + kind) * DAYS + day;
    }

    private static int thingOf(int spot) {
        return spot / DAYS / KINDS;
    }

    private static int kindOf(int spot) {
        return spot / DAYS % KINDS;
    }

    private static int dayOf(int spot) {
        return spot % DAYS;
    }

    /** A set of facts, by their places in the order of telling. */
    private static final class FactSet {
        private static final int WORDS = (MOST_FACTS + 63) / 64;

        private final long[] words = new long[WORDS];

        private boolean has(int fact) {
            return isPlace(fact) && (words[fact / 64] & (1L << (fact % 64))) != 0L;
        }

        private void add(int fact) {
            if (isPlace(fact)) {
                words[fact / 64] |= 1L << (fact % 64);
            }
        }

        private static boolean isPlace(int fact) {
            return fact >= 0 && fact < MOST_FACTS;
        }

        private void addAll(FactSet other) {
            for (int w = 0; w < WORDS; w++) {
                words[w] |= other.words[w];
            }
        }

        private void clear() {
            for (int w = 0; w < WORDS; w++) {
                words[w] = 0L;
            }
        }

        private int size() {
            int size = 0;
            for (int w = 0; w < WORDS; w++) {
                size += Long.bitCount(words[w]);
            }
            return size;
        }

        private boolean isSameAs(FactSet other) {
            for (int w = 0; w < WORDS; w++) {
                if (words[w] != other.words[w]) {
                    return false;
                }
            }
            return true;
        }
    }

    private static final class Desk {
        private final int number;
        private final FactSet knows = new FactSet();
        private final FactSet pending = new FactSet();
        private int clock;
        private int toldCount;
        private int openBatch = NONE;

        private Desk(int number) {
            this.number = number;
        }

        private int nextNumber() {
            return MOST_DESKS * toldCount + number;
        }

        private int nextTime() {
            return clock + 1;
        }

        private void hear(int fact) {
            toldCount++;
            clock++;
            if (openBatch == NONE) {
                knows.add(fact);
            } else {
                pending.add(fact);
            }
        }

        private void learnFrom(Desk other) {
            knows.addAll(other.knows);
            clock = Math.max(clock, other.clock);
        }

        private void learnPending() {
            knows.addAll(pending);
            pending.clear();
            openBatch = NONE;
        }
    }

    /** All facts that were told, each at its place in the order of telling. */
    private static final class Facts {
        private final int[] numbers = new int[MOST_FACTS];
        private final int[] spots = new int[MOST_FACTS];
        private final long[] values = new long[MOST_FACTS];
        private final int[] times = new int[MOST_FACTS];
        /** Who replaces a fact, not whom it replaces: so standing is a few words to compare. */
        private final long[] replacers = new long[MOST_FACTS * FactSet.WORDS];
        private final int[] byNumber = new int[MOST_FACTS];
        private final int[] bySpot = new int[MOST_FACTS];
        private int count;

        /** The place of the new fact; NONE, and nothing changes, when there is no room for it. */
        private int append(int number, int spot, long value, int time, FactSet replaced) {
            if (count >= MOST_FACTS) {
                return NONE;
            }
            int fact = count;
            numbers[fact] = number;
            spots[fact] = spot;
            values[fact] = value;
            times[fact] = time;
            for (int old = 0; old < fact; old++) {
                if (replaced.has(old)) {
                    replacers[old * FactSet.WORDS + fact / 64] |= 1L << (fact % 64);
                }
            }
            insertByKey(byNumber, numbers, fact);
            insertByKey(bySpot, spots, fact);
            count++;
            return fact;
        }

        private static void insertByKey(int[] order, int[] keys, int fact) {
            int place = fact;
            while (place > 0 && keys[order[place - 1]] > keys[fact]) {
                order[place] = order[place - 1];
                place--;
            }
            order[place] = fact;
        }

        private int withNumber(int number) {
            for (int fact = 0; fact < count; fact++) {
                if (numbers[fact] == number) {
                    return fact;
                }
            }
            return NONE;
        }

        /** The k-th of a set by numbers, or NONE. */
        private int inOrder(FactSet set, int k) {
            int passed = 0;
            for (int place = 0; place < count; place++) {
                int fact = byNumber[place];
                if (set.has(fact)) {
                    if (passed == k) {
                        return fact;
                    }
                    passed++;
                }
            }
            return NONE;
        }

        private boolean standsAmong(FactSet among, int fact) {
            if (!among.has(fact)) {
                return false;
            }
            for (int w = 0; w < FactSet.WORDS; w++) {
                if ((replacers[fact * FactSet.WORDS + w] & among.words[w]) != 0L) {
                    return false;
                }
            }
            return true;
        }

        private void pickStanding(FactSet among, int spot, FactSet into) {
            into.clear();
            for (int fact = 0; fact < count; fact++) {
                if (spots[fact] == spot && standsAmong(among, fact)) {
                    into.add(fact);
                }
            }
        }

        private void pickToldBy(long time, FactSet among, FactSet into) {
            into.clear();
            for (int fact = 0; fact < count; fact++) {
                if (times[fact] <= time && among.has(fact)) {
                    into.add(fact);
                }
            }
        }

        private void pickEqual(FactSet among, int kind, long value, FactSet into) {
            into.clear();
            for (int fact = 0; fact < count; fact++) {
                if (values[fact] == value && kindOf(spots[fact]) == kind && among.has(fact)) {
                    into.add(fact);
                }
            }
        }

        private int latestStanding(FactSet among, int thing, int kind, long day) {
            int latest = NONE;
            for (int fact = 0; fact < count; fact++) {
                int spot = spots[fact];
                if (spot / DAYS == thing * KINDS + kind && dayOf(spot) <= day
                        && standsAmong(among, fact)
                        && (latest == NONE || isLater(fact, latest))) {
                    latest = fact;
                }
            }
            return latest;
        }

        /** For two facts of one thing and kind: their spots are then in the order of days. */
        private boolean isLater(int fact, int other) {
            if (spots[fact] != spots[other]) {
                return spots[fact] > spots[other];
            }
            if (times[fact] != times[other]) {
                return times[fact] > times[other];
            }
            return numbers[fact] > numbers[other];
        }

        private int countConflicts(FactSet among) {
            int conflicts = 0;
            for (int place = 0; place < count; place++) {
                if (isFirstOfSpot(place) && isConflictFrom(place, among)) {
                    conflicts++;
                }
            }
            return conflicts;
        }

        /** The k-th spot in conflict of those that are not below the least one, or NONE. */
        private int conflictSpot(FactSet among, int least, int k) {
            int passed = 0;
            for (int place = 0; place < count; place++) {
                int spot = spots[bySpot[place]];
                if (spot >= least && isFirstOfSpot(place) && isConflictFrom(place, among)) {
                    if (passed == k) {
                        return spot;
                    }
                    passed++;
                }
            }
            return NONE;
        }

        private boolean isFirstOfSpot(int place) {
            return place == 0 || spots[bySpot[place - 1]] != spots[bySpot[place]];
        }

        private boolean isConflictFrom(int place, FactSet among) {
            int spot = spots[bySpot[place]];
            int first = NONE;
            for (int p = place; p < count && spots[bySpot[p]] == spot; p++) {
                int fact = bySpot[p];
                if (standsAmong(among, fact)) {
                    if (first == NONE) {
                        first = fact;
                    } else if (values[fact] != values[first]) {
                        return true;
                    }
                }
            }
            return false;
        }
    }

    /** The drawn numbers of one play. */
    private static final class Draw {
        private long x;

        private Draw(long seed) {
            x = seed;
        }

        private int below(int bound) {
            x = x * 6364136223846793005L + 1442695040888963407L;
            return bound < 1 ? 0 : (int) ((x >>> 33) % bound);
        }
    }
}
