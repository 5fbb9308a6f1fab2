/** The boundary cases of promises 10 (batch), 11 (endBatch), 12 (right) and 13 (seen), a method for each. */
public final class SeenBoundsTest {
    private static final long NO_VALUE = ShipSets.NO_VALUE;
    private static final int LAST_DAY = 100000;

    public static void main(String[] args) {
        batchHoldsWhatIsJoined();
        batchHoldsWhatIsSettled();
        batchOfAnEmptySet();
        batchLeavesTheRest();
        batchLeavesRights();
        batchOfNoSuchSet();
        batchBegunBefore();
        batchOfEachSet();
        endOfNoSuchSet();
        endWithoutABatch();
        endTwice();
        beginAfterTheEnd();
        endShowsWhatIsThere();
        rightsAtTheirBounds();
        rightOfNoSuchPerson();
        rightOfNoSuchKind();
        rightGivenAndTakenTwice();
        rightBeforeThereIsASet();
        seenOnTheLastDay();
        seenInConflict();
        seenByNoSuchPerson();
        seenOfNoSuchSet();
        seenOfNoSuchThingOrKind();
        seenWithoutTheRight();
        Check.end("SeenBoundsTest");
    }

    /** Set 0 with 5 and set 1 with 6, both of thing 0 and kind 0; person 0 sees that kind. */
    private static ShipSets twoSets() {
        ShipSets x = Check.withTellers(2);
        x.tell(0, 1, 0, 0, 5, 0);
        x.tell(1, 1, 0, 0, 6, 0);
        x.set(0);
        x.set(1);
        x.right(0, 0, true);
        return x;
    }

    private static void batchHoldsWhatIsJoined() {
        Check.sentence("Promise 10", "what persons see of it stays as it is");
        ShipSets x = twoSets();
        Check.due("batch", x.batch(0), true);
        Check.due("seen at its begin", x.seen(0, 0, 0, 0), 5);
        x.join(0, 1);
        Check.due("after a join", x.seen(0, 0, 0, 0), 5);
        x.tell(0, 2, 0, 0, 8, 0);
        x.set(0);
        x.join(0, 2);
        Check.due("after a later telling of its own", x.seen(0, 0, 0, 0), 5);
    }

    private static void batchHoldsWhatIsSettled() {
        Check.sentence("Promise 10", "what persons see of it stays as it is");
        ShipSets x = twoSets();
        x.join(0, 1);
        x.batch(0);
        x.settle(0, 0, 0, 1);
        Check.due("in conflict as at its begin", x.seen(0, 0, 0, 0), NO_VALUE);
        Check.due("known as settled", x.known(0, 0, 0, LAST_DAY), 6);
        ShipSets y = twoSets();
        y.join(0, 1);
        y.settle(0, 0, 0, 0);
        y.batch(0);
        y.settle(0, 0, 0, 1);
        Check.due("settled as at its begin", y.seen(0, 0, 0, 0), 5);
    }

    private static void batchOfAnEmptySet() {
        Check.sentence("Promise 10", "what persons see of it stays as it is");
        ShipSets x = twoSets();
        x.teller();
        x.set(2);
        Check.due("batch of an empty set", x.batch(2), true);
        x.join(2, 0);
        Check.due("nothing is seen", x.seen(0, 2, 0, 0), NO_VALUE);
        Check.due("end", x.endBatch(2), true);
        Check.due("it is seen", x.seen(0, 2, 0, 0), 5);
    }

    private static void batchLeavesTheRest() {
        Check.sentence("Promise 10", "what persons see of it");
        ShipSets x = twoSets();
        x.batch(0);
        Check.due("join counts what is held now", x.join(0, 1), 1);
        Check.due("known goes by it", x.known(0, 0, 0, LAST_DAY), NO_VALUE);
        Check.due("conflict goes by it", x.conflict(0, 0, 2), 2);
        Check.due("settle goes by it", x.settle(0, 0, 0, 1), 1);
        Check.due("join gives it to others", x.join(1, 0), 0);
        Check.due("the other one shows it", x.seen(0, 1, 0, 0), 6);
        Check.due("equal goes by it", x.equal(0, 1), true);
    }

    private static void batchLeavesRights() {
        Check.sentence("Promise 10", "their rights are as they are");
        ShipSets x = twoSets();
        x.batch(0);
        x.join(0, 1);
        Check.due("given in a batch", x.right(9, 0, true), true);
        Check.due("what was there at its begin", x.seen(9, 0, 0, 0), 5);
        Check.due("taken in a batch", x.right(0, 0, false), true);
        Check.due("nothing", x.seen(0, 0, 0, 0), NO_VALUE);
    }

    private static void batchOfNoSuchSet() {
        Check.sentence("Promise 10", "False when there is none such");
        ShipSets x = twoSets();
        for (int set : Check.outside(0, 1)) {
            Check.due("batch(" + set + ")", x.batch(set), false);
        }
        x.set(0);
        Check.due("a set that is made later has none", x.endBatch(2), false);
    }

    private static void batchBegunBefore() {
        Check.sentence("Promise 10", "or one was begun");
        ShipSets x = twoSets();
        Check.due("batch", x.batch(0), true);
        x.join(0, 1);
        Check.due("again", x.batch(0), false);
        Check.due("what was there at the first begin", x.seen(0, 0, 0, 0), 5);
        Check.due("and again", x.batch(0), false);
        Check.due("one end ends it", x.endBatch(0), true);
        Check.due("what is there now", x.seen(0, 0, 0, 0), NO_VALUE);
        Check.due("there is no second one", x.endBatch(0), false);
    }

    private static void batchOfEachSet() {
        Check.sentence("Promise 10", "A BATCH begins on a set");
        ShipSets x = Check.withTellers(1);
        for (int set = 0; set < 12; set++) {
            x.set(0);
        }
        x.right(0, 0, true);
        x.tell(0, 1, 0, 0, 5, 0);
        for (int set = 0; set < 12; set++) {
            Check.due("batch(" + set + ")", x.batch(set), true);
        }
        for (int set = 0; set < 12; set += 2) {
            Check.due("endBatch(" + set + ")", x.endBatch(set), true);
        }
        for (int set = 0; set < 12; set++) {
            Check.due("set " + set + " is in one", x.batch(set), set % 2 == 0);
        }
    }

    private static void endOfNoSuchSet() {
        Check.sentence("Promise 11", "False when there is none");
        ShipSets x = twoSets();
        x.batch(0);
        x.batch(1);
        for (int set : Check.outside(0, 1)) {
            Check.due("endBatch(" + set + ")", x.endBatch(set), false);
        }
    }

    private static void endWithoutABatch() {
        Check.sentence("Promise 11", "False when there is none");
        ShipSets x = twoSets();
        Check.due("none was begun", x.endBatch(0), false);
        x.batch(1);
        Check.due("one was begun on another", x.endBatch(0), false);
        Check.due("that one ends", x.endBatch(1), true);
    }

    private static void endTwice() {
        Check.sentence("Promise 11", "False when there is none");
        ShipSets x = twoSets();
        x.batch(0);
        Check.due("end", x.endBatch(0), true);
        Check.due("end again", x.endBatch(0), false);
    }

    private static void beginAfterTheEnd() {
        Check.sentence("Promise 11", "The BATCH of a set ends");
        ShipSets x = twoSets();
        x.batch(0);
        x.join(0, 1);
        x.endBatch(0);
        x.settle(0, 0, 0, 1);
        Check.due("a new one", x.batch(0), true);
        x.settle(0, 0, 0, 0);
        Check.due("what was there at the new begin", x.seen(0, 0, 0, 0), 6);
        Check.due("its end", x.endBatch(0), true);
        Check.due("what is there", x.seen(0, 0, 0, 0), 5);
    }

    private static void endShowsWhatIsThere() {
        Check.sentence("Promise 11", "The BATCH of a set ends");
        ShipSets x = twoSets();
        x.batch(0);
        x.join(0, 1);
        x.settle(0, 0, 0, 1);
        Check.due("in it", x.seen(0, 0, 0, 0), 5);
        x.endBatch(0);
        Check.due("behind it", x.seen(0, 0, 0, 0), 6);
    }

    /** Set 0 has of thing 3 the value 100 + kind for each kind. */
    private static ShipSets allKinds() {
        ShipSets x = Check.withTellers(1);
        for (int kind = 0; kind < 8; kind++) {
            x.tell(0, kind + 1, 3, kind, 100 + kind, 0);
        }
        x.set(0);
        return x;
    }

    /** That person 0 .. 9 sees kind 0 .. 7 just where it is the one given. */
    private static void dueSeenBy(ShipSets x, int person, int kind) {
        for (int p = 0; p < 10; p++) {
            for (int k = 0; k < 8; k++) {
                long due = p == person && k == kind ? 100 + k : NO_VALUE;
                Check.due("seen(" + p + ", 0, 3, " + k + ")", x.seen(p, 0, 3, k), due);
            }
        }
    }

    private static void rightsAtTheirBounds() {
        Check.sentence("Promise 12", "A person (0 .. 9) may see a kind, or not");
        int[][] bounds = {{0, 0}, {0, 7}, {9, 0}, {9, 7}, {4, 3}};
        for (int[] b : bounds) {
            ShipSets x = allKinds();
            Check.due("right(" + b[0] + ", " + b[1] + ", true)", x.right(b[0], b[1], true), true);
            dueSeenBy(x, b[0], b[1]);
            Check.due("right(" + b[0] + ", " + b[1] + ", false)", x.right(b[0], b[1], false), true);
            dueSeenBy(x, -1, -1);
        }
    }

    private static void rightOfNoSuchPerson() {
        Check.sentence("Promise 12", "False when there are none such");
        ShipSets x = allKinds();
        for (int person : Check.outside(0, 9)) {
            Check.due("right(" + person + ", 0, true)", x.right(person, 0, true), false);
            Check.due("right(" + person + ", 7, true)", x.right(person, 7, true), false);
        }
        Check.due("person -1, kind 8 is not person 0, kind 0", x.right(-1, 8, true), false);
        Check.due("person 10, kind -1 is not person 9, kind 7", x.right(10, -1, true), false);
        dueSeenBy(x, -1, -1);
    }

    private static void rightOfNoSuchKind() {
        Check.sentence("Promise 12", "False when there are none such");
        ShipSets x = allKinds();
        for (int kind : Check.outside(0, 7)) {
            Check.due("right(4, " + kind + ", true)", x.right(4, kind, true), false);
        }
        dueSeenBy(x, -1, -1);
        x.right(5, 0, true);
        Check.due("kind 8 of person 4 is not kind 0 of person 5", x.right(4, 8, false), false);
        dueSeenBy(x, 5, 0);
    }

    private static void rightGivenAndTakenTwice() {
        Check.sentence("Promise 12", "may see a kind, or not");
        ShipSets x = allKinds();
        Check.due("taken before it was given", x.right(2, 2, false), true);
        Check.due("given", x.right(2, 2, true), true);
        Check.due("given again", x.right(2, 2, true), true);
        dueSeenBy(x, 2, 2);
        Check.due("taken", x.right(2, 2, false), true);
        dueSeenBy(x, -1, -1);
    }

    private static void rightBeforeThereIsASet() {
        Check.sentence("Promise 12", "A person (0 .. 9) may see a kind, or not");
        ShipSets x = new ShipSets();
        Check.due("a right in a new object", x.right(9, 7, true), true);
        x.teller();
        x.tell(0, 1, 15, 7, 5, 0);
        x.set(0);
        Check.due("it goes for what comes later", x.seen(9, 0, 15, 7), 5);
    }

    private static void seenOnTheLastDay() {
        Check.sentence("Promise 13", "THE VALUE on day 100000, as a person sees it");
        ShipSets x = Check.withTellers(1);
        x.tell(0, 1, 0, 0, 5, LAST_DAY - 1);
        x.tell(0, 2, 0, 0, 6, LAST_DAY);
        x.set(0);
        x.right(0, 0, true);
        Check.due("of the last day", x.seen(0, 0, 0, 0), 6);
    }

    private static void seenInConflict() {
        Check.sentence("Promise 13", "NO_VALUE when there is none such");
        ShipSets x = twoSets();
        x.join(0, 1);
        Check.due("in conflict", x.seen(0, 0, 0, 0), NO_VALUE);
        Check.due("nobody told of it", x.seen(0, 0, 1, 0), NO_VALUE);
        x.settle(0, 0, 0, 1);
        Check.due("settled", x.seen(0, 0, 0, 0), 6);
    }

    private static void seenByNoSuchPerson() {
        Check.sentence("Promise 13", "NO_VALUE when there is none such");
        ShipSets x = allSeen();
        for (int person : Check.outside(0, 9)) {
            Check.due("seen(" + person + ", 0, 3, 0)", x.seen(person, 0, 3, 0), NO_VALUE);
            Check.due("seen(" + person + ", 0, 3, 7)", x.seen(person, 0, 3, 7), NO_VALUE);
        }
    }

    /** As allKinds, of all things, and all persons see all kinds. */
    private static ShipSets allSeen() {
        ShipSets x = Check.withTellers(1);
        for (int i = 0; i < 128; i++) {
            x.tell(0, i + 1, i / 8, i % 8, i, 0);
        }
        for (int i = 0; i < 80; i++) {
            x.right(i / 8, i % 8, true);
        }
        x.set(0);
        return x;
    }

    private static void seenOfNoSuchSet() {
        Check.sentence("Promise 13", "NO_VALUE when there is none such");
        ShipSets x = allSeen();
        for (int set : Check.outside(0, 0)) {
            Check.due("seen(0, " + set + ", 3, 0)", x.seen(0, set, 3, 0), NO_VALUE);
        }
        for (int set = 1; set < 13; set++) {
            Check.due("seen(0, " + set + ", 3, 0)", x.seen(0, set, 3, 0), NO_VALUE);
        }
    }

    private static void seenOfNoSuchThingOrKind() {
        Check.sentence("Promise 13", "NO_VALUE when there is none such");
        ShipSets x = allSeen();
        for (int thing : Check.outside(0, 15)) {
            Check.due("seen(5, 0, " + thing + ", 4)", x.seen(5, 0, thing, 4), NO_VALUE);
        }
        for (int kind : Check.outside(0, 7)) {
            Check.due("seen(5, 0, 4, " + kind + ")", x.seen(5, 0, 4, kind), NO_VALUE);
        }
        Check.due("thing 0, kind 0", x.seen(0, 0, 0, 0), 0);
        Check.due("thing 15, kind 7", x.seen(9, 0, 15, 7), 127);
    }

    private static void seenWithoutTheRight() {
        Check.sentence("Promise 13", "or it may not see the kind");
        ShipSets x = allSeen();
        x.right(9, 7, false);
        Check.due("not the kind", x.seen(9, 0, 15, 7), NO_VALUE);
        Check.due("not of another thing", x.seen(9, 0, 0, 7), NO_VALUE);
        Check.due("another kind", x.seen(9, 0, 15, 6), 126);
        Check.due("another person", x.seen(8, 0, 15, 7), 127);
    }
}
