/** The boundary cases of promises 4 (set), 5 (join) and 6 (equal), a method for each. */
public final class SetBoundsTest {
    private static final int NONE = ShipSets.NONE;
    private static final long NO_VALUE = ShipSets.NO_VALUE;
    private static final int LAST_DAY = 100000;

    public static void main(String[] args) {
        setOfOneThatToldNothing();
        setOfAllThatWasTold();
        setHasNothingToldLater();
        setHasNothingOfOthers();
        setHasNoSettlings();
        setOfNoneSuch();
        setOfAClosedTeller();
        setsEnd();
        joinWithItself();
        joinWithAnEmptySet();
        joinLeavesTheOther();
        joinTakesNothingAway();
        joinTakesSettlingsOfNoUseYet();
        joinInEveryOrder();
        joinWithoutConflicts();
        joinWithAsManyConflictsAsThereCanBe();
        joinLooksAtTheLastDay();
        joinNoneSuch();
        equalToItself();
        equalWhenEmpty();
        unequalByOneTelling();
        unequalByOneSettling();
        equalBesidesBatches();
        equalNoneSuch();
        Check.end("SetBoundsTest");
    }

    private static void setOfOneThatToldNothing() {
        Check.sentence("Promise 4", "A new set with all that a teller told so far: its number");
        ShipSets x = Check.withTellers(2);
        x.tell(1, 1, 0, 0, 5, 0);
        Check.due("an empty set", x.set(0), 0);
        Check.due("it holds nothing", x.known(0, 0, 0, LAST_DAY), NO_VALUE);
        Check.due("the next number", x.set(0), 1);
    }

    private static void setOfAllThatWasTold() {
        Check.sentence("Promise 4", "all that a teller told so far");
        ShipSets x = Check.withTellers(1);
        for (int i = 0; i < 200; i++) {
            x.tell(0, 200 - i, i % 16, i / 16 % 8, i, 0);
        }
        x.set(0);
        // From telling 128 on each cell is told of a second time, with a lesser number, which is not current.
        for (int i = 0; i < 128; i++) {
            Check.due("telling " + i, x.known(0, i % 16, i / 16, LAST_DAY), i);
        }
    }

    private static void setHasNothingToldLater() {
        Check.sentence("Promise 4", "so far");
        ShipSets x = Check.withTellers(1);
        x.tell(0, 5, 0, 0, 1, 0);
        x.set(0);
        x.tell(0, 6, 0, 0, 2, 0);
        x.tell(0, 4, 0, 1, 3, 0);
        Check.due("a greater number told later", x.known(0, 0, 0, LAST_DAY), 1);
        Check.due("a lesser number told later", x.known(0, 0, 1, LAST_DAY), NO_VALUE);
        x.set(0);
        Check.due("in a new set, the greater", x.known(1, 0, 0, LAST_DAY), 2);
        Check.due("in a new set, the lesser", x.known(1, 0, 1, LAST_DAY), 3);
    }

    private static void setHasNothingOfOthers() {
        Check.sentence("Promise 4", "all that a teller told");
        ShipSets x = Check.withTellers(8);
        for (int teller = 0; teller < 8; teller++) {
            x.tell(teller, 1, teller, 0, teller, 0);
        }
        for (int teller = 0; teller < 8; teller++) {
            x.set(teller);
            for (int thing = 0; thing < 8; thing++) {
                Check.due("thing " + thing + " in the set of " + teller, x.known(teller, thing, 0, LAST_DAY),
                        thing == teller ? thing : NO_VALUE);
            }
        }
    }

    private static void setHasNoSettlings() {
        Check.sentence("Promise 4", "A new set with all that a teller told so far");
        ShipSets x = Check.withTellers(1);
        x.tell(0, 1, 0, 0, 1, 0);
        x.set(0);
        x.set(0);
        x.settle(0, 0, 0, 0);
        x.set(0);
        Check.due("the new one holds no settling", x.equal(1, 2), true);
        Check.due("the settled one holds one", x.equal(0, 2), false);
    }

    private static void setOfNoneSuch() {
        Check.sentence("Promise 4", "NONE when there is none such");
        ShipSets x = Check.withTellers(3);
        for (int teller : Check.outside(0, 2)) {
            Check.due("set(" + teller + ")", x.set(teller), NONE);
        }
        Check.due("none was made", x.set(2), 0);
    }

    private static void setOfAClosedTeller() {
        Check.sentence("Promise 4", "NONE when there is none such");
        ShipSets x = Check.withTellers(1);
        x.tell(0, 1, 0, 0, 5, 0);
        x.close(0);
        Check.due("a closed teller is one still", x.set(0), 0);
        Check.due("with what it told", x.known(0, 0, 0, LAST_DAY), 5);
    }

    private static void setsEnd() {
        Check.sentence("Promise 4", "or there are 12");
        ShipSets x = Check.withTellers(8);
        for (int set = 0; set < 12; set++) {
            Check.due("set " + set + " is none yet", x.equal(set, set), false);
            Check.due("set " + set, x.set(set % 8), set);
            Check.due("set " + set + " is there", x.equal(set, set), true);
        }
        for (int teller = 0; teller < 8; teller++) {
            Check.due("one more", x.set(teller), NONE);
        }
        Check.due("there is no set 12", x.join(0, 12), NONE);
    }

    private static void joinWithItself() {
        Check.sentence("Promise 5", "A set gets all that another one holds");
        ShipSets x = inConflict();
        Check.due("a copy", x.join(2, 0), 1);
        Check.due("with itself", x.join(0, 0), 1);
        Check.due("nothing came of it", x.equal(0, 2), true);
    }

    /** Set 0 of both tellers' tellings in conflict, set 1 of the second's, set 2 of the first's, set 3 empty. */
    private static ShipSets inConflict() {
        ShipSets x = Check.withTellers(3);
        x.tell(0, 1, 0, 0, 5, 0);
        x.tell(1, 1, 0, 0, 6, 0);
        x.set(0);
        x.set(1);
        x.set(0);
        x.set(2);
        Check.due("join(0, 1)", x.join(0, 1), 1);
        return x;
    }

    private static void joinWithAnEmptySet() {
        Check.sentence("Promise 5", "A set gets all that another one holds");
        ShipSets x = inConflict();
        Check.due("an empty one into it", x.join(0, 3), 1);
        Check.due("nothing came of it", x.conflict(0, 0, 2), 2);
        Check.due("into an empty one", x.join(3, 0), 1);
        Check.due("all came", x.equal(3, 0), true);
        ShipSets y = Check.withTellers(2);
        y.set(0);
        y.set(1);
        Check.due("an empty one into an empty one", y.join(0, 1), 0);
    }

    private static void joinLeavesTheOther() {
        Check.sentence("Promise 5", "A set gets all that another one holds");
        ShipSets x = inConflict();
        Check.due("the other has only its own", x.known(1, 0, 0, LAST_DAY), 6);
        Check.due("no conflict in the other", x.conflict(1, 0, 0), NONE);
        Check.due("a third one is as it was", x.known(2, 0, 0, LAST_DAY), 5);
    }

    private static void joinTakesNothingAway() {
        Check.sentence("Promise 5", "A set gets all that another one holds");
        ShipSets x = Check.withTellers(2);
        x.tell(0, 1, 0, 0, 5, 0);
        x.set(0);
        x.tell(0, 2, 0, 0, 6, 0);
        x.set(0);
        Check.due("an older set into a newer one", x.join(1, 0), 0);
        Check.due("the newer telling stays", x.known(1, 0, 0, LAST_DAY), 6);
        Check.due("the newer one into the older", x.join(0, 1), 0);
        Check.due("it has it now", x.known(0, 0, 0, LAST_DAY), 6);
        Check.due("both are equal", x.equal(0, 1), true);
    }

    private static void joinTakesSettlingsOfNoUseYet() {
        Check.sentence("Promise 5", "A set gets all that another one holds");
        ShipSets x = Check.withTellers(3);
        x.tell(0, 1, 0, 0, 5, 0);
        x.tell(1, 1, 0, 0, 6, 0);
        x.tell(2, 1, 0, 0, 7, 0);
        x.set(0);
        x.set(1);
        x.set(2);
        x.join(0, 1);
        x.settle(0, 0, 0, 1);
        Check.due("three are current, the settling is of two", x.join(2, 0), 1);
        x.tell(2, 2, 0, 0, 6, 0);
        x.settle(2, 0, 0, 2);
        Check.due("the settling of three into the set of two", x.join(0, 2), 0);
        Check.due("it counts", x.known(0, 0, 0, LAST_DAY), 7);
    }

    private static void joinInEveryOrder() {
        Check.sentence("What it is", "as sets that are joined in any order");
        int[][] orders = {{0, 1, 2}, {0, 2, 1}, {1, 0, 2}, {1, 2, 0}, {2, 0, 1}, {2, 1, 0}};
        ShipSets x = Check.withTellers(4);
        for (int teller = 0; teller < 3; teller++) {
            x.tell(teller, 3 - teller, 0, 0, teller, teller);
            x.tell(teller, 9, teller, 7, teller, teller);
            x.set(teller);
            x.settle(teller, 0, 0, teller);
        }
        for (int[] order : orders) {
            int made = x.set(3);
            int conflicts = 0;
            for (int other : order) {
                conflicts = x.join(made, other);
                conflicts = x.join(made, other);
            }
            Check.due("conflicts", conflicts, 1);
            Check.due("equal to the first one joined", x.equal(3, made), true);
        }
    }

    private static void joinWithoutConflicts() {
        Check.sentence("Promise 5", "how many things and kinds are IN CONFLICT in it then");
        ShipSets x = Check.withTellers(2);
        for (int i = 0; i < 100; i++) {
            x.tell(0, i + 1, i / 8, i % 8, 5, 0);
            x.tell(1, i + 1, i / 8, i % 8, 5, 0);
        }
        x.set(0);
        x.set(1);
        Check.due("all tell the same", x.join(0, 1), 0);
    }

    private static void joinWithAsManyConflictsAsThereCanBe() {
        Check.sentence("Promise 5", "how many things and kinds are IN CONFLICT in it then");
        ShipSets x = Check.withTellers(2);
        for (int i = 0; i < 100; i++) {
            x.tell(0, i + 1, 15 - i / 8, i % 8, 5, 0);
            x.tell(1, i + 1, 15 - i / 8, i % 8, 6, 0);
        }
        x.set(0);
        x.set(1);
        Check.due("a hundred pairs", x.join(0, 1), 100);
        Check.due("one settled", x.settle(0, 15, 0, 0), 1);
        Check.due("one less", x.join(0, 0), 99);
    }

    private static void joinLooksAtTheLastDay() {
        Check.sentence("Terms", "IN CONFLICT in a set, if on day 100000 there are CURRENT tellings and no VALUE");
        ShipSets x = Check.withTellers(2);
        x.tell(0, 1, 0, 0, 5, LAST_DAY);
        x.tell(1, 1, 0, 0, 6, LAST_DAY);
        // In conflict only from day 10 to day 19.
        x.tell(0, 2, 1, 1, 5, 10);
        x.tell(1, 2, 1, 1, 6, 10);
        x.tell(1, 3, 1, 1, 5, 20);
        x.set(0);
        x.set(1);
        Check.due("only what differs on the last day", x.join(0, 1), 1);
        Check.due("on day 19 the other has no value", x.known(0, 1, 1, 19), NO_VALUE);
    }

    private static void joinNoneSuch() {
        Check.sentence("Promise 5", "NONE when there are none such");
        ShipSets x = inConflict();
        for (int set : Check.outside(0, 3)) {
            Check.due("join(" + set + ", 0)", x.join(set, 0), NONE);
            Check.due("join(0, " + set + ")", x.join(0, set), NONE);
            Check.due("join(" + set + ", " + set + ")", x.join(set, set), NONE);
        }
    }

    private static void equalToItself() {
        Check.sentence("Promise 6", "Whether two sets hold the same");
        ShipSets x = inConflict();
        for (int set = 0; set < 4; set++) {
            Check.due("equal(" + set + ", " + set + ")", x.equal(set, set), true);
        }
    }

    private static void equalWhenEmpty() {
        Check.sentence("Promise 6", "Whether two sets hold the same");
        ShipSets x = Check.withTellers(2);
        x.set(0);
        x.set(1);
        Check.due("empty sets of two tellers", x.equal(0, 1), true);
        x.tell(1, 1, 0, 0, 0, 0);
        x.set(1);
        Check.due("an empty one and another", x.equal(0, 2), false);
        Check.due("another and an empty one", x.equal(2, 0), false);
    }

    private static void unequalByOneTelling() {
        Check.sentence("Promise 6", "Whether two sets hold the same");
        ShipSets x = Check.withTellers(8);
        for (int teller = 0; teller < 8; teller++) {
            x.tell(teller, 1, 0, 0, 5, 0);
        }
        x.set(0);
        x.set(0);
        for (int teller = 1; teller < 8; teller++) {
            x.set(teller);
            x.join(0, teller + 1);
            // The values are the same, the tellings are not.
            Check.due("one of teller " + teller + " more", x.equal(0, 1), false);
            Check.due("one of teller " + teller + " less", x.equal(1, 0), false);
            x.join(1, teller + 1);
            Check.due("both have it", x.equal(0, 1), true);
        }
    }

    private static void unequalByOneSettling() {
        Check.sentence("Terms", "hold tellings and SETTLINGS");
        ShipSets x = Check.withTellers(1);
        x.tell(0, 1, 0, 0, 5, 0);
        x.set(0);
        x.set(0);
        for (int made = 1; made <= 40; made++) {
            Check.due("settle", x.settle(0, 0, 0, 0), made);
            Check.due("one more", x.equal(0, 1), false);
            Check.due("one less", x.equal(1, 0), false);
            x.join(1, 0);
            Check.due("both have it", x.equal(0, 1), true);
        }
    }

    private static void equalBesidesBatches() {
        Check.sentence("Promise 6", "Whether two sets hold the same");
        ShipSets x = inConflict();
        x.batch(2);
        x.join(2, 1);
        Check.due("what a set in a batch holds now", x.equal(0, 2), true);
        Check.due("not what persons see", x.equal(2, 1), false);
    }

    private static void equalNoneSuch() {
        Check.sentence("Promise 6", "false when there are none such");
        ShipSets x = inConflict();
        for (int set : Check.outside(0, 3)) {
            Check.due("equal(" + set + ", 0)", x.equal(set, 0), false);
            Check.due("equal(0, " + set + ")", x.equal(0, set), false);
            Check.due("equal(" + set + ", " + set + ")", x.equal(set, set), false);
        }
        Check.due("two none such", x.equal(4, 5), false);
    }
}
