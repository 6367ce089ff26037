/**
 * Promises 3 to 14: every argument at its last good and first bad values and at the least and greatest int and long,
 * each with each of the others, one call on a new object that Twins.few() has made.
 */
public final class ExtremesTest {
    private static final int LEAST = Integer.MIN_VALUE;
    private static final int GREATEST = Integer.MAX_VALUE;

    private static final int[] DESKS = {LEAST, LEAST + 1, -8, -1, 0, 1, 2, 3, 7, 8, GREATEST};
    private static final int[] THINGS = {LEAST, -1, 0, 1, 2, 3, 99, 100, GREATEST};
    private static final int[] KINDS = {LEAST, -1, 0, 1, 9, 10, 11, GREATEST};
    private static final long[] DAYS = {
        Long.MIN_VALUE, LEAST, -1, 0, 4, 5, 99_999, 100_000, 100_001, GREATEST, 1L << 32, Long.MAX_VALUE};
    private static final long[] VALUES = {Long.MIN_VALUE, -5, 0, 7, 8, 50, 55, 60, (1L << 32) + 7, Long.MAX_VALUE};
    private static final long[] TIMES = {Long.MIN_VALUE, LEAST, -1, 0, 1, 2, 3, 4, GREATEST, 1L << 32, Long.MAX_VALUE};
    private static final int[] PLACES = {
        LEAST, LEAST + 3, LEAST + 4, -4, -1, 0, 1, 2, 3, 4, 5, 6, 299, 300, 303, 304, GREATEST - 1, GREATEST};
    private static final int[] FACTS = {
        LEAST, LEAST + 8, -8, -7, -1, 0, 1, 2, 3, 8, 9, 10, 16, 17, 24, 299, 300, 2399, 2400, GREATEST};
    /** The number of each desk's next fact. */
    private static final int[] NEXT = {24, 17, 10};

    public static void main(String[] args) {
        tell();
        correct();
        join();
        known();
        conflict();
        settle();
        equal();
        batches();
        play();
        find();
        counts();
        Check.end("ExtremesTest");
    }

    private static ToldFacts few() {
        ToldFacts facts = new ToldFacts();
        Twins.few(facts);
        return facts;
    }

    private static boolean isDesk(int desk) {
        return desk >= 0 && desk <= 2;
    }

    private static boolean isSpot(int thing, int kind, long day) {
        return thing >= 0 && thing <= 99 && kind >= 0 && kind <= 9 && day >= 0 && day <= 100_000;
    }

    private static void tell() {
        for (int desk : DESKS) {
            for (int thing : THINGS) {
                for (int kind : KINDS) {
                    for (long day : DAYS) {
                        int due = isDesk(desk) && isSpot(thing, kind, day) ? NEXT[desk] : Check.NONE;
                        Check.due("tell(" + desk + ", " + thing + ", " + kind + ", " + day + ", least)",
                                few().tell(desk, thing, kind, day, Long.MIN_VALUE), due);
                    }
                }
            }
        }
        for (long v : VALUES) {
            ToldFacts facts = few();
            Check.due("tell, value " + v, facts.tell(0, 9, 9, 9, v), 24);
            Check.due("known, value " + v, facts.known(0, 9, 9, 9, 4), v);
            Check.due("find, value " + v, facts.find(0, 9, v, 0), 24);
        }
    }

    private static void correct() {
        for (int desk : DESKS) {
            for (int fact : FACTS) {
                boolean stands = desk == 0 && (fact == 1 || fact == 8 || fact == 16) || desk == 1 && fact == 1
                        || desk == 2 && fact == 2;
                for (long v : VALUES) {
                    Check.due("correct(" + desk + ", " + fact + ", " + v + ")", few().correct(desk, fact, v),
                            stands ? NEXT[desk] : Check.NONE);
                }
            }
        }
        for (long v : VALUES) {
            ToldFacts facts = few();
            Check.due("correct, value " + v, facts.correct(2, 2, v), 10);
            Check.due("known, value " + v, facts.known(2, 3, 9, 100_000, 2), v);
        }
    }

    private static void join() {
        for (int desk : DESKS) {
            for (int other : DESKS) {
                boolean isDone = isDesk(desk) && isDesk(other) && desk != other;
                int conflicts = desk == 0 || other == 0 ? 1 : 0;
                Check.due("join(" + desk + ", " + other + ")", few().join(desk, other),
                        isDone ? conflicts : Check.NONE);
            }
        }
    }

    private static long knownByHand(int desk, int thing, int kind, long day, long on) {
        if (desk == 0 && thing == 1 && kind == 1 && day >= 5 && on >= 1) {
            return on == 1 ? 50 : on == 2 ? 55 : 60;
        }
        if ((desk == 0 || desk == 1) && thing == 2 && kind == 0 && day >= 0 && on >= 1) {
            return 7;
        }
        if (desk == 2 && thing == 3 && kind == 9 && day >= 100_000 && on >= 1) {
            return -5;
        }
        return Check.NOTHING;
    }

    private static void known() {
        ToldFacts facts = few();
        int calls = 0;
        for (int desk : DESKS) {
            for (int thing : THINGS) {
                for (int kind : KINDS) {
                    for (long day : DAYS) {
                        for (long on : TIMES) {
                            // It changes nothing, so that one object may answer many.
                            if (calls++ % 400 == 0) {
                                facts = few();
                            }
                            Check.due("known(" + desk + ", " + thing + ", " + kind + ", " + day + ", " + on + ")",
                                    facts.known(desk, thing, kind, day, on),
                                    knownByHand(desk, thing, kind, day, on));
                        }
                    }
                }
            }
        }
    }

    private static void conflict() {
        int[] row = {1, 1, 5, 2, 8, 16};
        for (int desk : DESKS) {
            for (int k : PLACES) {
                for (int what : PLACES) {
                    boolean isThere = desk == 0 && k == 0 && what >= 0 && what < row.length;
                    Check.due("conflict(" + desk + ", " + k + ", " + what + ")", few().conflict(desk, k, what),
                            isThere ? row[what] : Check.NONE);
                }
            }
        }
    }

    private static void settle() {
        for (int desk : DESKS) {
            for (int thing : THINGS) {
                for (int kind : KINDS) {
                    for (int which : PLACES) {
                        boolean isThere = desk == 0 && thing == 1 && kind == 1 && (which == 0 || which == 1);
                        Check.due("settle(" + desk + ", " + thing + ", " + kind + ", " + which + ")",
                                few().settle(desk, thing, kind, which), isThere ? 24 : Check.NONE);
                    }
                }
            }
        }
    }

    private static void equal() {
        for (int desk : DESKS) {
            for (int other : DESKS) {
                Check.due("equal(" + desk + ", " + other + ")", few().equal(desk, other),
                        isDesk(desk) && desk == other);
            }
        }
    }

    private static void batches() {
        for (int desk : DESKS) {
            Check.due("batch(" + desk + ")", few().batch(desk), desk == 0 || desk == 2 ? 2 : Check.NONE);
        }
        for (int batch : PLACES) {
            Check.due("endBatch(" + batch + ")", few().endBatch(batch), batch == 0);
        }
        Check.due("endBatch(39)", few().endBatch(39), false);
        Check.due("endBatch(40)", few().endBatch(40), false);
    }

    private static void play() {
        for (long seed : VALUES) {
            for (int turns : new int[] {LEAST, -200, -1, 201, GREATEST}) {
                Check.due("play(" + seed + ", " + turns + ")", few().play(seed, turns), Check.NONE);
            }
            Check.due("play(" + seed + ", 0)", few().play(seed, 0), 6);
            Check.due("play(" + seed + ", 200) goes on", few().play(seed, 200) > 100, true);
        }
    }

    private static int foundByHand(int desk, int kind, long v, int k) {
        if (k != 0) {
            return Check.NONE;
        }
        if (desk == 0 && kind == 1) {
            return v == 50 ? 0 : v == 55 ? 8 : v == 60 ? 16 : Check.NONE;
        }
        if ((desk == 0 || desk == 1) && kind == 0) {
            return v == 7 ? 1 : Check.NONE;
        }
        return desk == 2 && kind == 9 && v == -5 ? 2 : Check.NONE;
    }

    private static void find() {
        for (int desk : DESKS) {
            for (int kind : KINDS) {
                for (long v : VALUES) {
                    for (int k : PLACES) {
                        Check.due("find(" + desk + ", " + kind + ", " + v + ", " + k + ")",
                                few().find(desk, kind, v, k), foundByHand(desk, kind, v, k));
                    }
                }
            }
        }
    }

    private static void counts() {
        int[] due = {4, 1, 1};
        for (int desk : DESKS) {
            Check.due("counts(" + desk + ")", few().counts(desk), isDesk(desk) ? due[desk] : Check.NONE);
        }
    }
}
