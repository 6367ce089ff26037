/** What the tests share: counting wrong answers, and objects that have desks already. */
final class Check {
    static final long NOTHING = Long.MIN_VALUE;
    static final int NONE = -1;
    static final int FULL = -2;

    private static int asked = 0;
    private static int wrong = 0;

    private Check() {
    }

    static void due(String call, long got, long want) {
        asked++;
        if (got != want) {
            wrong++;
            System.out.println(call + " answered " + got + ", due is " + want);
        }
    }

    static void due(String call, boolean got, boolean want) {
        asked++;
        if (got != want) {
            wrong++;
            System.out.println(call + " answered " + got + ", due is " + want);
        }
    }

    static int wrongSoFar() {
        return wrong;
    }

    static ToldFacts withDesks(int desks) {
        ToldFacts facts = new ToldFacts();
        for (int desk = 0; desk < desks; desk++) {
            due("desk()", facts.desk(), desk);
        }
        return facts;
    }

    /** Tells so many facts at a desk, each of thing 99, kind 9 and a day of its own. */
    static void fill(ToldFacts facts, int desk, int many) {
        for (int c = 0; c < many; c++) {
            facts.tell(desk, 99, 9, 1000 + c, 7);
        }
    }

    static void end(String test) {
        System.out.println(test + ": " + asked + " answers, " + wrong + " wrong");
        if (wrong != 0 || asked == 0) {
            System.exit(1);
        }
    }
}
