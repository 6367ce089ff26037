/** What the tests share: counting wrong answers, and objects that have desks already. */
final class Check {
    static final long NOTHING = Long.MIN_VALUE;
    static final int NONE = -1;
    static final int FULL = -2;

    private static int asked = 0;
    private static int wrong = 0;

    private Check() {
    }

    static void due(String call, long got, long want) {
        asked++;
        if (got != want) {
            wrong++;
            System.out.println(call + " answered " + got + ", due is " + want);
        }
    }

    static void due(String call, boolean got, boolean want) {
        asked++;
        if (got != want) {
            wrong++;
            System.out.println(call + " answered " + got + ", due is " + want);
        }
    }

    /** A call whose answer is any number that is not negative: it was taken. */
    static void taken(String call, long got) {
        due(call + " is taken", got >= 0, true);
    }

    static int wrongSoFar() {
        return wrong;
    }

    static ToldFacts withDesks(int desks) {
        ToldFacts facts = new ToldFacts();
        for (int desk = 0; desk < desks; desk++) {
            due("desk()", facts.desk(), desk);
        }
        return facts;
    }

    /** Tells so many facts at a desk, each of thing 99, kind 9 and a day of its own. */
    static void fill(ToldFacts facts, int desk, int many) {
        for (int c = 0; c < many; c++) {
            facts.tell(desk, 99, 9, 1000 + c, 7);
        }
    }

    /** The least time, up to 511, at which something is known of a spot that had one fact; -1 when none is. */
    static int timeOf(ToldFacts facts, int desk, int thing, int kind, long day) {
        int below = -1;
        int from = 511;
        if (facts.known(desk, thing, kind, day, from) == NOTHING) {
            return -1;
        }
        while (from - below > 1) {
            int middle = (from + below) / 2;
            if (facts.known(desk, thing, kind, day, middle) == NOTHING) {
                below = middle;
            } else {
                from = middle;
            }
        }
        return from;
    }

    static void end(String test) {
        System.out.println(test + ": " + asked + " answers, " + wrong + " wrong");
        if (wrong != 0 || asked == 0) {
            System.exit(1);
        }
    }
}
