/** Promises 10 (batch), 11 (endBatch), 12 (right) and 13 (seen). */
public final class SeenTest {
    private static final long NO_VALUE = ShipSets.NO_VALUE;
    private static final int LAST = 100000;

    public static void main(String[] args) {
        rights();
        rightsWrongly();
        seenIsTheLastDay();
        seenWrongly();
        batchHoldsTellings();
        batchHoldsSettlings();
        batchHoldsNoRights();
        batchesOfSetsApart();
        batchAgain();
        batchWrongly();
        Check.end("SeenTest");
    }

    /** Set 0 with 5 and set 1 with 6, both of thing 0 and kind 0; person 0 sees that kind. */
    private static ShipSets twoSets() {
        ShipSets x = Check.withTellers(2);
        x.tell(0, 1, 0, 0, 5, LAST);
        x.tell(1, 1, 0, 0, 6, 10);
        x.set(0);
        x.set(1);
        x.right(0, 0, true);
        return x;
    }

    private static void rights() {
        ShipSets x = Check.withTellers(1);
        for (int kind = 0; kind < 8; kind++) {
            x.tell(0, kind + 1, 3, kind, 100 + kind, 0);
        }
        x.set(0);
        for (int person = 0; person < 10; person++) {
            Check.due("right", x.right(person, person % 8, true), true);
        }
        for (int person = 0; person < 10; person++) {
            for (int kind = 0; kind < 8; kind++) {
                long want = kind == person % 8 ? 100 + kind : NO_VALUE;
                Check.due("seen(" + person + ", 0, 3, " + kind + ")", x.seen(person, 0, 3, kind), want);
            }
        }
        Check.due("right again", x.right(9, 1, true), true);
        Check.due("seen still", x.seen(9, 0, 3, 1), 101);
        Check.due("taken", x.right(9, 1, false), true);
        Check.due("taken again", x.right(9, 1, false), true);
        Check.due("not seen", x.seen(9, 0, 3, 1), NO_VALUE);
        Check.due("another's right stays", x.seen(1, 0, 3, 1), 101);
    }

    private static void rightsWrongly() {
        ShipSets x = twoSets();
        int[] wrongPersons = {-1, 10, Integer.MIN_VALUE, Integer.MAX_VALUE};
        for (int person : wrongPersons) {
            Check.due("person " + person, x.right(person, 0, true), false);
        }
        int[] wrongKinds = {-1, 8, Integer.MIN_VALUE, Integer.MAX_VALUE};
        for (int kind : wrongKinds) {
            Check.due("kind " + kind, x.right(0, kind, true), false);
            Check.due("kind " + kind + " off", x.right(0, kind, false), false);
        }
        Check.due("person 1 got nothing by kind 8", x.seen(1, 0, 0, 0), NO_VALUE);
        Check.due("person 0 sees", x.seen(0, 0, 0, 0), 5);
    }

    private static void seenIsTheLastDay() {
        ShipSets x = twoSets();
        Check.due("on the last day", x.seen(0, 0, 0, 0), 5);
        Check.due("an earlier one", x.seen(0, 1, 0, 0), 6);
        Check.due("in conflict", x.join(0, 1), 1);
        Check.due("nothing is seen", x.seen(0, 0, 0, 0), NO_VALUE);
        x.settle(0, 0, 0, 1);
        Check.due("settled", x.seen(0, 0, 0, 0), 6);
        Check.due("another thing", x.seen(0, 0, 1, 0), NO_VALUE);
    }

    private static void seenWrongly() {
        ShipSets x = twoSets();
        int[] wrong = {-1, 16, Integer.MIN_VALUE, Integer.MAX_VALUE};
        for (int w : wrong) {
            Check.due("person " + w, x.seen(w, 0, 0, 0), NO_VALUE);
            Check.due("set " + w, x.seen(0, w, 0, 0), NO_VALUE);
            Check.due("thing " + w, x.seen(0, 0, w, 0), NO_VALUE);
            Check.due("kind " + w, x.seen(0, 0, 0, w), NO_VALUE);
        }
        Check.due("person 10", x.seen(10, 0, 0, 0), NO_VALUE);
        Check.due("set 2", x.seen(0, 2, 0, 0), NO_VALUE);
    }

    private static void batchHoldsTellings() {
        ShipSets x = twoSets();
        Check.due("batch", x.batch(0), true);
        Check.due("join", x.join(0, 1), 1);
        Check.due("seen as it was", x.seen(0, 0, 0, 0), 5);
        Check.due("known as it is", x.known(0, 0, 0, LAST), NO_VALUE);
        Check.due("conflict as it is", x.conflict(0, 0, 2), 2);
        x.tell(1, 2, 4, 0, 8, 1);
        x.set(1);
        x.join(0, 2);
        Check.due("nothing of another thing is seen", x.seen(0, 0, 4, 0), NO_VALUE);
        Check.due("end", x.endBatch(0), true);
        Check.due("seen as it is", x.seen(0, 0, 0, 0), NO_VALUE);
        Check.due("the other thing is seen", x.seen(0, 0, 4, 0), 8);
    }

    private static void batchHoldsSettlings() {
        ShipSets x = twoSets();
        x.join(0, 1);
        x.settle(0, 0, 0, 0);
        x.batch(0);
        Check.due("settle in a batch", x.settle(0, 0, 0, 1), 2);
        Check.due("the old one is seen", x.seen(0, 0, 0, 0), 5);
        Check.due("the new one is known", x.known(0, 0, 0, LAST), 6);
        x.endBatch(0);
        Check.due("the new one is seen", x.seen(0, 0, 0, 0), 6);
    }

    private static void batchHoldsNoRights() {
        ShipSets x = twoSets();
        x.batch(0);
        x.join(0, 1);
        x.right(1, 0, true);
        Check.due("a new right in a batch", x.seen(1, 0, 0, 0), 5);
        x.right(0, 0, false);
        Check.due("a right taken in a batch", x.seen(0, 0, 0, 0), NO_VALUE);
    }

    private static void batchesOfSetsApart() {
        ShipSets x = twoSets();
        x.tell(0, 2, 7, 0, 70, 0);
        x.set(0);
        Check.due("batch of 1", x.batch(1), true);
        Check.due("batch of 0", x.batch(0), true);
        x.join(0, 2);
        x.join(1, 2);
        Check.due("0 holds", x.seen(0, 0, 7, 0), NO_VALUE);
        Check.due("1 holds", x.seen(0, 1, 7, 0), NO_VALUE);
        Check.due("2 has no batch", x.seen(0, 2, 7, 0), 70);
        x.endBatch(1);
        Check.due("0 holds on", x.seen(0, 0, 7, 0), NO_VALUE);
        Check.due("1 is free", x.seen(0, 1, 7, 0), 70);
        x.join(2, 0);
        Check.due("a set takes what one in a batch holds now", x.equal(2, 0), true);
    }

    private static void batchAgain() {
        ShipSets x = twoSets();
        x.batch(0);
        x.join(0, 1);
        Check.due("a second one is refused", x.batch(0), false);
        Check.due("and changes nothing", x.seen(0, 0, 0, 0), 5);
        x.settle(0, 0, 0, 1);
        Check.due("end", x.endBatch(0), true);
        Check.due("end again", x.endBatch(0), false);
        Check.due("begin anew", x.batch(0), true);
        Check.due("what it was at the new begin", x.seen(0, 0, 0, 0), 6);
        x.settle(0, 0, 0, 0);
        Check.due("it stays", x.seen(0, 0, 0, 0), 6);
        Check.due("end anew", x.endBatch(0), true);
        Check.due("it goes on", x.seen(0, 0, 0, 0), 5);
    }

    private static void batchWrongly() {
        ShipSets x = twoSets();
        int[] wrong = {-1, 2, 11, 12, Integer.MIN_VALUE, Integer.MAX_VALUE};
        for (int set : wrong) {
            Check.due("batch(" + set + ")", x.batch(set), false);
            Check.due("endBatch(" + set + ")", x.endBatch(set), false);
        }
        Check.due("no batch to end", x.endBatch(0), false);
        Check.due("a set made later has no batch", x.set(0), 2);
        Check.due("no batch to end there", x.endBatch(2), false);
        Check.due("batch there", x.batch(2), true);
    }
}
