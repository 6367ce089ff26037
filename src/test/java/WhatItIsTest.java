import java.util.ArrayList;
import java.util.List;

/** The document's 'What it is': each phrase of its first sentence, and the 512 calls. */
public final class WhatItIsTest {
    private static final int CALLS = 512;

    public static void main(String[] args) {
        theDayAndTheTime();
        correctionsKeepTheOldOnes();
        setsAreJoinedInAnyOrder();
        conflictsAndHowTheyAreSettled();
        batchesComeWhole();
        whatWasKnownWhen();
        the512thCallIsAnswered();
        fiveHundredTwelveTimesTheDearestCall();
        Check.end("WhatItIsTest");
    }

    /** Told late of an early day, and early of a late one: the two have nothing to do with each other. */
    private static void theDayAndTheTime() {
        ToldFacts facts = Check.withDesks(1);
        facts.tell(0, 1, 1, 90, 900);
        facts.tell(0, 1, 1, 10, 100);
        Check.due("day 10 at time 1", facts.known(0, 1, 1, 10, 1), Check.NOTHING);
        Check.due("day 10 at time 2", facts.known(0, 1, 1, 10, 2), 100);
        Check.due("day 90 at time 1", facts.known(0, 1, 1, 90, 1), 900);
        Check.due("day 90 at time 2", facts.known(0, 1, 1, 90, 2), 900);
    }

    private static void correctionsKeepTheOldOnes() {
        ToldFacts facts = Check.withDesks(2);
        facts.tell(0, 1, 1, 1, 100);
        for (int c = 1; c <= 100; c++) {
            Check.due("correct", facts.correct(0, 8 * (c - 1), 100 + c), 8 * c);
        }
        Check.due("all are known", facts.counts(0), 101);
        facts.join(1, 0);
        for (int c = 0; c <= 100; c++) {
            Check.due("found", facts.find(0, 1, 100 + c, 0), 8 * c);
            Check.due("known at its time, also where it came by joining", facts.known(1, 1, 1, 1, c + 1), 100 + c);
        }
    }

    private static ToldFacts fourDesksApart() {
        ToldFacts facts = Check.withDesks(8);
        facts.tell(0, 1, 1, 1, 10);
        facts.join(1, 0);
        facts.join(2, 0);
        facts.correct(0, 0, 11);
        facts.correct(1, 0, 12);
        facts.tell(1, 1, 1, 2, 20);
        facts.tell(2, 1, 1, 2, 21);
        facts.tell(2, 2, 0, 0, 30);
        facts.tell(0, 2, 0, 0, 30);
        facts.batch(3);
        facts.tell(3, 1, 1, 1, 13);
        facts.endBatch(0);
        return facts;
    }

    private static List<int[]> ordersOfFour() {
        List<int[]> orders = new ArrayList<>();
        for (int code = 0; code < 256; code++) {
            int[] order = {code & 3, code >> 2 & 3, code >> 4 & 3, code >> 6};
            if ((1 << order[0] | 1 << order[1] | 1 << order[2] | 1 << order[3]) == 15) {
                orders.add(order);
            }
        }
        return orders;
    }

    /** Desk 4 joins one after another, desk 5 two and two, desk 6 each one twice. */
    private static void setsAreJoinedInAnyOrder() {
        List<Long> first = null;
        Check.due("orders of four", ordersOfFour().size(), 24);
        for (int[] from : ordersOfFour()) {
            ToldFacts facts = fourDesksApart();
            int last = 0;
            for (int desk : from) {
                last = facts.join(4, desk);
            }
            Check.due("spots in conflict at the end", last, 2);
            facts.join(5, from[0]);
            facts.join(5, from[1]);
            facts.join(7, from[2]);
            facts.join(7, from[3]);
            Check.due("two and two", facts.join(5, 7), 2);
            for (int i = 0; i < 8; i++) {
                facts.join(6, from[i % 4]);
            }
            for (int desk = 4; desk <= 6; desk++) {
                Check.due("equal(4, " + desk + ")", facts.equal(4, desk), true);
                List<Long> seen = allSeen(facts, desk);
                first = first == null ? seen : first;
                Check.due("as in the first order", seen.equals(first), true);
            }
        }
    }

    private static List<Long> allSeen(ToldFacts facts, int desk) {
        List<Long> seen = new ArrayList<>();
        seen.add((long) facts.counts(desk));
        for (int k = 0; k < 3; k++) {
            for (int what = 0; what < 8; what++) {
                seen.add((long) facts.conflict(desk, k, what));
            }
        }
        for (int on = 0; on < 5; on++) {
            for (int day = 0; day < 3; day++) {
                seen.add(facts.known(desk, 1, 1, day, on));
                seen.add(facts.known(desk, 2, 0, day, on));
            }
        }
        for (int v = 10; v < 14; v++) {
            seen.add((long) facts.find(desk, 1, v, 0));
        }
        seen.add((long) facts.find(desk, 0, 30, 1));
        return seen;
    }

    private static void conflictsAndHowTheyAreSettled() {
        ToldFacts facts = Check.withDesks(3);
        facts.tell(0, 1, 1, 1, 10);
        facts.tell(1, 1, 1, 1, 20);
        Check.due("a join shows it", facts.join(2, 0) + facts.join(2, 1), 1);
        Check.due("one is chosen", facts.settle(2, 1, 1, 1), 2);
        Check.due("it is settled there", facts.conflict(2, 0, 0), Check.NONE);
        Check.due("and, by joining, elsewhere", facts.join(0, 2), 0);
        Check.due("known at desk 0", facts.known(0, 1, 1, 1, 2), 20);
        Check.due("desk 1 has not heard of it", facts.known(1, 1, 1, 1, 9), 20);
        Check.due("nor of the other value", facts.find(1, 1, 10, 0), Check.NONE);
    }

    /** No call in between sees a part of it. */
    private static void batchesComeWhole() {
        ToldFacts facts = Check.withDesks(2);
        facts.tell(0, 1, 1, 1, 1);
        facts.batch(0);
        for (int c = 1; c <= 20; c++) {
            facts.tell(0, 1, 1, 1 + c, 1 + c);
            facts.join(1, 0);
            Check.due("at its desk", facts.counts(0), 1);
            Check.due("at another", facts.counts(1), 1);
            Check.due("known", facts.known(0, 1, 1, 100, 500), 1);
        }
        facts.endBatch(0);
        Check.due("all at its end", facts.counts(0), 21);
        Check.due("known", facts.known(0, 1, 1, 100, 500), 21);
        Check.due("at the other not yet", facts.counts(1), 1);
        facts.join(1, 0);
        Check.due("all by the next join", facts.counts(1), 21);
    }

    /** What comes later by joining may have been told earlier: then it counts for the time of its telling. */
    private static void whatWasKnownWhen() {
        ToldFacts facts = Check.withDesks(2);
        facts.tell(0, 1, 1, 1, 10);
        facts.tell(0, 1, 1, 1, 11);
        facts.tell(1, 1, 1, 2, 20);
        Check.due("before the join, at 1", facts.known(0, 1, 1, 2, 1), 10);
        Check.due("before the join, at 2", facts.known(0, 1, 1, 2, 2), 11);
        facts.join(0, 1);
        Check.due("after it, at 1", facts.known(0, 1, 1, 2, 1), 20);
        Check.due("after it, on day 1", facts.known(0, 1, 1, 1, 1), 10);
    }

    private static ToldFacts after(int calls) {
        ToldFacts facts = new ToldFacts();
        Twins.few(facts);
        for (int call = 13; call < calls; call++) {
            switch (call % 5) {
                case 0 -> facts.tell(0, 100, 0, 0, 0);
                case 1 -> facts.known(0, 1, 1, 5, 3);
                case 2 -> facts.join(0, 1);
                case 3 -> facts.play(call, 0);
                default -> facts.counts(0);
            }
        }
        return facts;
    }

    private static void the512thCallIsAnswered() {
        int before = CALLS - 1;
        Check.due("desk", after(before).desk(), 3);
        Check.due("tell", after(before).tell(0, 1, 1, 1, 1), 24);
        Check.due("correct", after(before).correct(0, 8, 1), 24);
        Check.due("join", after(before).join(2, 0), 1);
        Check.due("known", after(before).known(0, 1, 1, 5, 2), 55);
        Check.due("conflict", after(before).conflict(0, 0, 5), 16);
        Check.due("settle", after(before).settle(0, 1, 1, 1), 24);
        Check.due("equal", after(before).equal(0, 0), true);
        Check.due("batch", after(before).batch(0), 2);
        Check.due("endBatch", after(before).endBatch(0), true);
        Check.due("play", after(before).play(0, 0), 6);
        Check.due("find", after(before).find(0, 1, 60, 0), 16);
        Check.due("counts", after(before).counts(0), 4);
    }

    private static void fiveHundredTwelveTimesTheDearestCall() {
        ToldFacts facts = Check.withDesks(8);
        int last = 0;
        for (int call = 8; call < CALLS; call++) {
            last = facts.play(call, 200);
        }
        Check.due("eight desks know all 300", last, 2400);
    }
}
