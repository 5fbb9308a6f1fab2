/** Promises 4 (set), 5 (join) and 6 (equal). */
public final class SetTest {
    private static final int NONE = ShipSets.NONE;
    private static final long NO_VALUE = ShipSets.NO_VALUE;

    public static void main(String[] args) {
        setHoldsWhatWasTold();
        setsAreTwelve();
        setWrongly();
        joinInAnyOrder();
        joinCountsConflicts();
        joinTakesSettlings();
        joinWrongly();
        equalLooksAtAll();
        equalWrongly();
        Check.end("SetTest");
    }

    private static void setHoldsWhatWasTold() {
        ShipSets x = Check.withTellers(2);
        Check.due("an empty set", x.set(0), 0);
        x.tell(0, 9, 1, 1, 10, 0);
        x.tell(1, 1, 1, 2, 20, 0);
        Check.due("a set with one", x.set(0), 1);
        // Told later with a lesser number: what a set holds goes by time, not by number.
        x.tell(0, 3, 1, 3, 30, 0);
        Check.due("a set with two", x.set(0), 2);
        Check.due("empty still", x.known(0, 1, 1, 100000), NO_VALUE);
        Check.due("the first", x.known(1, 1, 1, 100000), 10);
        Check.due("not the later one", x.known(1, 1, 3, 100000), NO_VALUE);
        Check.due("not another teller's", x.known(1, 1, 2, 100000), NO_VALUE);
        Check.due("both, the first", x.known(2, 1, 1, 100000), 10);
        Check.due("both, the second", x.known(2, 1, 3, 100000), 30);
    }

    private static void setsAreTwelve() {
        ShipSets x = Check.withTellers(8);
        for (int i = 0; i < 12; i++) {
            Check.due("set " + i, x.set(i % 8), i);
        }
        Check.due("set 13", x.set(0), NONE);
        Check.due("set 14", x.set(7), NONE);
        Check.due("the last one is there", x.equal(11, 11), true);
        Check.due("no more", x.equal(12, 12), false);
    }

    private static void setWrongly() {
        ShipSets x = Check.withTellers(2);
        int[] wrong = {-1, 2, 7, 8, Integer.MIN_VALUE, Integer.MAX_VALUE};
        for (int teller : wrong) {
            Check.due("set(" + teller + ")", x.set(teller), NONE);
        }
        Check.due("none was made", x.set(1), 0);
    }

    private static void joinInAnyOrder() {
        ShipSets x = threeSets();
        x.join(0, 1);
        x.join(0, 2);
        x.join(2, 1);
        x.join(2, 3);
        Check.due("0+1+2 and 2+1+0 are equal", x.equal(0, 2), true);
        Check.due("1 is as it was", x.known(1, 0, 0, 100000), 2);
        Check.due("joined again", x.join(0, 2), 1);
        Check.due("still equal", x.equal(0, 2), true);
        // An older set of a teller takes nothing away.
        Check.due("joined with itself", x.join(0, 0), 1);
        Check.due("joined with an older one", x.join(0, 3), 1);
        Check.due("equal after all", x.equal(2, 0), true);
    }

    private static ShipSets threeSets() {
        ShipSets x = Check.withTellers(3);
        for (int teller = 0; teller < 3; teller++) {
            x.tell(teller, 5, 0, 0, teller + 1, 0);
            x.set(teller);
        }
        x.set(0);
        return x;
    }

    private static void joinCountsConflicts() {
        ShipSets x = Check.withTellers(2);
        for (int i = 0; i < 10; i++) {
            x.tell(0, i + 1, i, i % 8, 100, i);
            x.tell(1, i + 1, i, i % 8, i < 4 ? 100 : 101, i);
        }
        x.tell(0, 50, 15, 7, 1, 100000);
        x.tell(1, 50, 15, 7, 2, 100000);
        x.set(0);
        x.set(1);
        Check.due("join", x.join(0, 1), 7);
        Check.due("one side only", x.join(1, 1), 0);
    }

    private static void joinTakesSettlings() {
        ShipSets x = threeSets();
        x.join(0, 1);
        x.join(1, 0);
        Check.due("settle", x.settle(1, 0, 0, 1), 1);
        Check.due("not settled in the other", x.known(0, 0, 0, 100000), NO_VALUE);
        Check.due("join takes the settling", x.join(0, 1), 0);
        Check.due("settled", x.known(0, 0, 0, 100000), 2);
        Check.due("a third telling opens it", x.join(0, 2), 1);
        Check.due("open", x.known(0, 0, 0, 100000), NO_VALUE);
    }

    private static void joinWrongly() {
        ShipSets x = threeSets();
        int[] wrong = {-1, 4, 11, 12, Integer.MIN_VALUE, Integer.MAX_VALUE};
        for (int set : wrong) {
            Check.due("join(0, " + set + ")", x.join(0, set), NONE);
            Check.due("join(" + set + ", 0)", x.join(set, 0), NONE);
            Check.due("join(" + set + ", " + set + ")", x.join(set, set), NONE);
        }
        Check.due("nothing changed", x.equal(0, 3), true);
    }

    private static void equalLooksAtAll() {
        ShipSets x = threeSets();
        Check.due("the same teller's", x.equal(0, 3), true);
        Check.due("with itself", x.equal(1, 1), true);
        Check.due("other tellers", x.equal(0, 1), false);
        x.tell(0, 4, 3, 3, 7, 7);
        Check.due("a new set", x.set(0), 4);
        Check.due("one telling more", x.equal(0, 4), false);
        Check.due("one telling less", x.equal(4, 0), false);
        x.join(0, 4);
        Check.due("joined", x.equal(0, 4), true);
        Check.due("settle in one", x.settle(0, 0, 0, 0), 1);
        Check.due("a settling more", x.equal(0, 4), false);
        Check.due("a settling less", x.equal(4, 0), false);
        Check.due("settle alike in the other", x.settle(4, 0, 0, 0), 2);
        Check.due("two settlings, one in each", x.equal(0, 4), false);
        x.join(0, 4);
        x.join(4, 0);
        Check.due("both in both", x.equal(0, 4), true);
        Check.due("empty sets of two tellers", emptySetsEqual(), true);
    }

    private static boolean emptySetsEqual() {
        ShipSets x = Check.withTellers(2);
        x.set(0);
        x.set(1);
        return x.equal(0, 1);
    }

    private static void equalWrongly() {
        ShipSets x = threeSets();
        int[] wrong = {-1, 4, 12, Integer.MIN_VALUE, Integer.MAX_VALUE};
        for (int set : wrong) {
            Check.due("equal(0, " + set + ")", x.equal(0, set), false);
            Check.due("equal(" + set + ", 0)", x.equal(set, 0), false);
            Check.due("equal(" + set + ", " + set + ")", x.equal(set, set), false);
        }
    }
}
