/** Promises 7 (known), 8 (conflict) and 9 (settle). */
public final class ValueTest {
    private static final int NONE = ShipSets.NONE;
    private static final long NO_VALUE = ShipSets.NO_VALUE;
    private static final int LAST = 100000;

    public static void main(String[] args) {
        knownOnADay();
        knownGoesByNumber();
        knownOfSeveralTellers();
        knownWrongly();
        conflictsInOrder();
        conflictWrongly();
        settleDecides();
        settlingCountsForJustItsTellings();
        settlingsAreForty();
        settleWrongly();
        Check.end("ValueTest");
    }

    private static void knownOnADay() {
        ShipSets x = Check.withTellers(1);
        x.tell(0, 1, 2, 3, 11, 10);
        x.tell(0, 2, 2, 3, 12, 20);
        x.tell(0, 3, 2, 4, 13, 0);
        x.set(0);
        Check.due("before all", x.known(0, 2, 3, 9), NO_VALUE);
        Check.due("on the first day", x.known(0, 2, 3, 10), 11);
        Check.due("before the second", x.known(0, 2, 3, 19), 11);
        Check.due("on the second day", x.known(0, 2, 3, 20), 12);
        Check.due("on the last day", x.known(0, 2, 3, LAST), 12);
        Check.due("on day 0", x.known(0, 2, 4, 0), 13);
        Check.due("before day 0", x.known(0, 2, 4, -1), NO_VALUE);
        Check.due("long before", x.known(0, 2, 4, Integer.MIN_VALUE), NO_VALUE);
        // The document refuses no day: behind the last one all tellings are known.
        Check.due("behind the last day", x.known(0, 2, 3, LAST + 1), 12);
        Check.due("far behind", x.known(0, 2, 3, Integer.MAX_VALUE), 12);
        Check.due("another kind", x.known(0, 2, 5, LAST), NO_VALUE);
        Check.due("another thing", x.known(0, 3, 3, LAST), NO_VALUE);
    }

    private static void knownGoesByNumber() {
        ShipSets x = Check.withTellers(1);
        x.tell(0, 100, 0, 0, 1, 30);
        x.tell(0, 50, 0, 0, 2, 40);
        x.tell(0, 20, 0, 0, 3, 10);
        x.set(0);
        Check.due("day 10", x.known(0, 0, 0, 10), 3);
        Check.due("day 30", x.known(0, 0, 0, 30), 1);
        Check.due("the later day has a lesser number", x.known(0, 0, 0, 40), 1);
    }

    private static void knownOfSeveralTellers() {
        ShipSets x = Check.withTellers(8);
        for (int teller = 0; teller < 8; teller++) {
            x.tell(teller, 10 + teller, 0, 0, 5, teller);
            x.set(teller);
            x.join(0, teller);
        }
        Check.due("all say the same", x.known(0, 0, 0, LAST), 5);
        x.tell(7, 18, 0, 0, 6, 50);
        Check.due("not in the set yet", x.known(0, 0, 0, LAST), 5);
        x.set(7);
        Check.due("one differs", x.join(0, 8), 1);
        Check.due("before it differs", x.known(0, 0, 0, 49), 5);
        Check.due("when it differs", x.known(0, 0, 0, 50), NO_VALUE);
        Check.due("eight are current", x.conflict(0, 0, 2), 8);
        x.tell(7, 19, 0, 0, 5, 60);
        x.set(7);
        Check.due("they agree again", x.join(0, 9), 0);
        Check.due("agreed", x.known(0, 0, 0, 60), 5);
        Check.due("not yet", x.known(0, 0, 0, 59), NO_VALUE);
    }

    private static void knownWrongly() {
        ShipSets x = conflicts();
        int[] wrong = {-1, 16, Integer.MIN_VALUE, Integer.MAX_VALUE};
        for (int w : wrong) {
            Check.due("set " + w, x.known(w, 1, 1, LAST), NO_VALUE);
            Check.due("thing " + w, x.known(0, w, 1, LAST), NO_VALUE);
            Check.due("kind " + w, x.known(0, 1, w, LAST), NO_VALUE);
        }
        Check.due("kind 8 is not the next thing's kind 0", x.known(0, 4, 8, LAST), NO_VALUE);
        Check.due("kind -1 is not the last thing's kind 7", x.known(0, 6, -1, LAST), NO_VALUE);
    }

    /** Set 0 is in conflict at (0, 7), (3, 1), (3, 2), (15, 7); at (5, 0) and (5, 7) there is a value. */
    private static ShipSets conflicts() {
        ShipSets x = Check.withTellers(3);
        int[][] cells = {{15, 7}, {3, 2}, {0, 7}, {3, 1}};
        for (int i = 0; i < cells.length; i++) {
            x.tell(0, i + 1, cells[i][0], cells[i][1], 1, 0);
            x.tell(1, i + 1, cells[i][0], cells[i][1], 2, 0);
        }
        x.tell(2, 1, 3, 2, 2, 0);
        x.tell(0, 20, 5, 0, 9, 0);
        x.tell(1, 20, 5, 0, 9, 0);
        x.tell(2, 20, 5, 7, 9, 0);
        for (int teller = 0; teller < 3; teller++) {
            x.set(teller);
            x.join(0, teller);
        }
        return x;
    }

    private static void conflictsInOrder() {
        ShipSets x = conflicts();
        int[][] want = {{0, 7, 2}, {3, 1, 2}, {3, 2, 3}, {15, 7, 2}};
        for (int k = 0; k < want.length; k++) {
            for (int what = 0; what < 3; what++) {
                Check.due("conflict(0, " + k + ", " + what + ")", x.conflict(0, k, what), want[k][what]);
            }
        }
        Check.due("no fifth", x.conflict(0, 4, 0), NONE);
        Check.due("none in a set of one teller", x.conflict(1, 0, 0), NONE);
        Check.due("settle one", x.settle(0, 3, 1, 0), 1);
        Check.due("the second is another", x.conflict(0, 1, 1), 2);
        Check.due("the third", x.conflict(0, 2, 0), 15);
        Check.due("no fourth", x.conflict(0, 3, 0), NONE);
    }

    private static void conflictWrongly() {
        ShipSets x = conflicts();
        int[] wrong = {-1, 12, Integer.MIN_VALUE, Integer.MAX_VALUE};
        for (int w : wrong) {
            Check.due("set " + w, x.conflict(w, 0, 0), NONE);
            Check.due("k " + w, x.conflict(0, w, 0), NONE);
            Check.due("what " + w, x.conflict(0, 0, w), NONE);
        }
        Check.due("what 3", x.conflict(0, 0, 3), NONE);
        Check.due("set 3", x.conflict(3, 0, 0), NONE);
    }

    private static void settleDecides() {
        ShipSets x = conflicts();
        Check.due("open", x.known(0, 3, 2, LAST), NO_VALUE);
        Check.due("settle by 1", x.settle(0, 3, 2, 1), 1);
        Check.due("by 1", x.known(0, 3, 2, LAST), 2);
        Check.due("settle by 0", x.settle(0, 3, 2, 0), 2);
        Check.due("by 0, made last", x.known(0, 3, 2, LAST), 1);
        Check.due("settle another", x.settle(0, 0, 7, 1), 3);
        Check.due("by 0 still", x.known(0, 3, 2, LAST), 1);
        Check.due("the other one", x.known(0, 0, 7, LAST), 2);
        Check.due("one left open", x.known(0, 3, 1, LAST), NO_VALUE);
        Check.due("what is not in conflict", x.settle(0, 5, 0, 1), 4);
        Check.due("keeps its value", x.known(0, 5, 0, LAST), 9);
        Check.due("the set of another", x.settle(1, 15, 7, 1), 5);
    }

    /** Made last counts by when it was made, not by when it came into the set. */
    private static void settlingCountsForJustItsTellings() {
        ShipSets x = Check.withTellers(2);
        x.tell(0, 1, 0, 0, 5, 10);
        x.tell(1, 1, 0, 0, 6, 20);
        x.set(0);
        x.set(1);
        x.join(0, 1);
        x.join(1, 0);
        x.settle(0, 0, 0, 0);
        x.settle(1, 0, 0, 1);
        x.join(1, 0);
        Check.due("made last, though the other came later", x.known(1, 0, 0, LAST), 6);
        Check.due("only the first is here", x.known(0, 0, 0, LAST), 5);
        x.tell(0, 2, 0, 0, 7, 30);
        x.set(0);
        Check.due("a new telling", x.join(1, 2), 1);
        Check.due("before it the settling counts", x.known(1, 0, 0, 29), 6);
        Check.due("with it it does not", x.known(1, 0, 0, 30), NO_VALUE);
        Check.due("settle anew", x.settle(1, 0, 0, 0), 3);
        Check.due("anew", x.known(1, 0, 0, 30), 7);
        Check.due("the old one goes for the days before", x.known(1, 0, 0, 29), 6);
        Check.due("one is current", x.known(1, 0, 0, 19), 5);
        x.join(0, 1);
        Check.due("joined", x.known(0, 0, 0, 20), 6);
        Check.due("equal", x.equal(0, 1), true);
    }

    private static void settlingsAreForty() {
        ShipSets x = conflicts();
        for (int i = 1; i <= 39; i++) {
            Check.due("settling " + i, x.settle(0, 3, 2, 0), i);
            Check.due("refused, not made", x.settle(1, 3, 1, 0), NONE);
        }
        Check.due("settling 40", x.settle(0, 15, 7, 1), 40);
        Check.due("settling 41", x.settle(0, 15, 7, 0), NONE);
        Check.due("settling 42", x.settle(0, 3, 2, 1), NONE);
        Check.due("the last one counts", x.known(0, 15, 7, LAST), 2);
        Check.due("the one before too", x.known(0, 3, 2, LAST), 1);
    }

    private static void settleWrongly() {
        ShipSets x = conflicts();
        int[] wrong = {-1, 16, Integer.MIN_VALUE, Integer.MAX_VALUE};
        for (int w : wrong) {
            Check.due("set " + w, x.settle(w, 3, 2, 0), NONE);
            Check.due("thing " + w, x.settle(0, w, 2, 0), NONE);
            Check.due("kind " + w, x.settle(0, 3, w, 0), NONE);
            Check.due("teller " + w, x.settle(0, 3, 2, w), NONE);
        }
        Check.due("a teller without a telling of it", x.settle(0, 3, 1, 2), NONE);
        Check.due("no such teller", x.settle(0, 3, 1, 3), NONE);
        Check.due("nobody told of it", x.settle(0, 9, 1, 0), NONE);
        Check.due("not in this set", x.settle(1, 5, 7, 2), NONE);
        Check.due("nothing was settled", x.join(0, 0), 4);
        Check.due("none was made", x.settle(0, 3, 1, 1), 1);
    }
}
