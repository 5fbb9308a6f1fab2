/** The boundary cases of promises 1 (a new object), 2 (teller), 3 (tell) and 17 (close), a method for each. */
public final class TellingBoundsTest {
    private static final int NONE = ShipSets.NONE;
    private static final long NO_VALUE = ShipSets.NO_VALUE;
    private static final int LAST_DAY = 100000;
    private static final long GREATEST = 1000000000L;

    public static void main(String[] args) {
        newHasNoTellers();
        newHasNoSets();
        newShowsNothing();
        objectsAreApart();
        tellersAsTheyCome();
        tellersEnd();
        leastOfAll();
        greatestOfAll();
        eachBoundAlone();
        toldJustThis();
        toldJustThisClosed();
        toldJustThisWhenFull();
        noSuchTeller();
        noSuchNumber();
        noSuchThing();
        noSuchKind();
        noSuchValue();
        noSuchDay();
        anotherWithThisNumber();
        numberOfAnotherTeller();
        tellWhenClosed();
        closedTellsNoMore();
        twoHundred();
        twoHundredOfOneTeller();
        doubledAndRefusedAreNotCounted();
        closeOnce();
        closeNoneSuch();
        closeIsOfOneTeller();
        Check.end("TellingBoundsTest");
    }

    private static void newHasNoTellers() {
        Check.sentence("Promise 1", "No tellers");
        for (int teller = 0; teller < 8; teller++) {
            ShipSets x = new ShipSets();
            Check.due("tell", x.tell(teller, 1, 0, 0, 0, 0), NONE);
            Check.due("set", x.set(teller), NONE);
            Check.due("block", x.block(teller, 1, 1), false);
            Check.due("number", x.number(teller), NONE);
            Check.due("lost", x.lost(teller, 0, 0), NONE);
            Check.due("close", x.close(teller), false);
            Check.due("mark", x.mark(teller, 0, 0), false);
            Check.due("corrected, above", x.corrected(teller, 0, 0), NONE);
            Check.due("corrected, below", x.corrected(teller, 0, 1), NONE);
            Check.due("the first one comes", x.teller(), 0);
        }
    }

    private static void newHasNoSets() {
        Check.sentence("Promise 1", "No tellers");
        ShipSets x = new ShipSets();
        for (int set = 0; set < 12; set++) {
            Check.due("join", x.join(set, set), NONE);
            Check.due("equal", x.equal(set, set), false);
            Check.due("known", x.known(set, 0, 0, LAST_DAY), NO_VALUE);
            Check.due("conflict", x.conflict(set, 0, 2), NONE);
            Check.due("settle", x.settle(set, 0, 0, 0), NONE);
            Check.due("batch", x.batch(set), false);
            Check.due("endBatch", x.endBatch(set), false);
        }
    }

    private static void newShowsNothing() {
        Check.sentence("Promise 1", "nobody may see anything");
        ShipSets x = Check.withTellers(1);
        for (int kind = 0; kind < 8; kind++) {
            x.tell(0, kind + 1, 0, kind, 5, 0);
        }
        x.set(0);
        for (int kind = 0; kind < 8; kind++) {
            Check.due("there is a value to see", x.known(0, 0, kind, LAST_DAY), 5);
            for (int person = 0; person < 10; person++) {
                Check.due("seen(" + person + ", 0, 0, " + kind + ")", x.seen(person, 0, 0, kind), NO_VALUE);
            }
        }
    }

    private static void objectsAreApart() {
        Check.sentence("Promise 1", "No tellers, nobody may see anything");
        ShipSets x = Check.withTellers(8);
        x.right(0, 0, true);
        x.tell(0, 1, 0, 0, 5, 0);
        x.set(0);
        x.settle(0, 0, 0, 0);
        ShipSets y = new ShipSets();
        Check.due("a new object's set", y.set(0), NONE);
        Check.due("a new object's teller", y.teller(), 0);
        Check.due("its telling", y.tell(0, 1, 0, 0, 6, 0), 1);
        Check.due("its set", y.set(0), 0);
        Check.due("what nobody sees of it", y.seen(0, 0, 0, 0), NO_VALUE);
        Check.due("its settling", y.settle(0, 0, 0, 0), 1);
        Check.due("the first object's value", x.known(0, 0, 0, LAST_DAY), 5);
    }

    private static void tellersAsTheyCome() {
        Check.sentence("Terms", "TELLERS are 0 .. 7, as they come");
        ShipSets x = new ShipSets();
        for (int teller = 0; teller < 8; teller++) {
            Check.due("not there before it came", x.set(teller), NONE);
            Check.due("teller()", x.teller(), teller);
            Check.due("there when it came", x.set(teller), teller);
        }
    }

    private static void tellersEnd() {
        Check.sentence("Promise 2", "NONE when there are 8");
        ShipSets x = Check.withTellers(8);
        for (int i = 0; i < 5; i++) {
            Check.due("one more", x.teller(), NONE);
            Check.due("teller " + (8 + i) + " is none", x.tell(8 + i, 1, 0, 0, 0, 0), NONE);
        }
        for (int teller = 0; teller < 8; teller++) {
            Check.due("the eight are there", x.tell(teller, 1, 0, 0, 0, 0), 1);
        }
        x.close(7);
        Check.due("a closed one leaves no room", x.teller(), NONE);
    }

    private static void leastOfAll() {
        Check.sentence("Promise 3", "A telling: 1");
        ShipSets x = Check.withTellers(1);
        Check.due("all least", x.tell(0, 1, 0, 0, -GREATEST, 0), 1);
        x.set(0);
        Check.due("known on day 0", x.known(0, 0, 0, 0), -GREATEST);
        Check.due("all least again", x.tell(0, 1, 0, 0, -GREATEST, 0), 0);
    }

    private static void greatestOfAll() {
        Check.sentence("Promise 3", "A telling: 1");
        ShipSets x = Check.withTellers(8);
        Check.due("all greatest", x.tell(7, 9999, 15, 7, GREATEST, LAST_DAY), 1);
        x.set(7);
        Check.due("known on the last day", x.known(0, 15, 7, LAST_DAY), GREATEST);
        Check.due("not on the day before", x.known(0, 15, 7, LAST_DAY - 1), NO_VALUE);
        Check.due("all greatest again", x.tell(7, 9999, 15, 7, GREATEST, LAST_DAY), 0);
    }

    private static void eachBoundAlone() {
        Check.sentence("Terms", "it has a THING (0 .. 15), a KIND (0 .. 7), a value (-1000000000 .. 1000000000), "
                + "and a day ON which it is known (0 .. 100000)");
        ShipSets x = Check.withTellers(1);
        Check.due("number 1", x.tell(0, 1, 5, 5, 5, 5), 1);
        Check.due("number 9999", x.tell(0, 9999, 5, 5, 5, 5), 1);
        Check.due("thing 0", x.tell(0, 11, 0, 5, 5, 5), 1);
        Check.due("thing 15", x.tell(0, 12, 15, 5, 5, 5), 1);
        Check.due("kind 0", x.tell(0, 13, 5, 0, 5, 5), 1);
        Check.due("kind 7", x.tell(0, 14, 5, 7, 5, 5), 1);
        Check.due("the least value", x.tell(0, 15, 6, 0, -GREATEST, 5), 1);
        Check.due("the greatest value", x.tell(0, 16, 6, 1, GREATEST, 5), 1);
        Check.due("value 0", x.tell(0, 17, 6, 2, 0, 5), 1);
        Check.due("day 0", x.tell(0, 18, 5, 5, 5, 0), 1);
        Check.due("the last day", x.tell(0, 19, 5, 5, 5, LAST_DAY), 1);
    }

    private static void toldJustThis() {
        Check.sentence("Promise 3", "0 when the teller told just this (with all its numbers) before");
        ShipSets x = Check.withTellers(2);
        Check.due("told", x.tell(0, 7, 3, 2, -4, 9), 1);
        for (int i = 0; i < 3; i++) {
            Check.due("told again", x.tell(0, 7, 3, 2, -4, 9), 0);
        }
        Check.due("by another teller it is another", x.tell(1, 7, 3, 2, -4, 9), 1);
        Check.due("with another number it is another", x.tell(0, 8, 3, 2, -4, 9), 1);
        Check.due("with a lesser number too", x.tell(0, 6, 3, 2, -4, 9), 1);
        Check.due("the first again", x.tell(0, 7, 3, 2, -4, 9), 0);
    }

    private static void toldJustThisClosed() {
        Check.sentence("Promise 3", "closed or not");
        ShipSets x = Check.withTellers(1);
        x.tell(0, 7, 3, 2, -4, 9);
        x.close(0);
        Check.due("told before it was closed", x.tell(0, 7, 3, 2, -4, 9), 0);
        Check.due("and again", x.tell(0, 7, 3, 2, -4, 9), 0);
    }

    private static void toldJustThisWhenFull() {
        Check.sentence("Promise 3", "0 when the teller told just this (with all its numbers) before");
        ShipSets x = twoHundredTold();
        for (int i = 0; i < 200; i++) {
            Check.due("telling " + i + " again", x.tell(i % 8, i + 1, i % 16, i % 8, i, i), 0);
        }
    }

    private static void noSuchTeller() {
        Check.sentence("Promise 3", "NONE when there is no such teller");
        ShipSets x = Check.withTellers(3);
        for (int teller : Check.outside(0, 2)) {
            Check.due("teller " + teller, x.tell(teller, 1, 0, 0, 0, 0), NONE);
        }
        Check.due("teller 3 comes", x.teller(), 3);
        Check.due("and tells", x.tell(3, 1, 0, 0, 0, 0), 1);
    }

    private static void noSuchNumber() {
        Check.sentence("Terms", "a NUMBER (1 .. 9999)");
        ShipSets x = Check.withTellers(1);
        for (int number : Check.outside(1, 9999)) {
            Check.due("number " + number, x.tell(0, number, 0, 0, 0, 0), NONE);
            Check.due("number " + number + " again", x.tell(0, number, 0, 0, 0, 0), NONE);
        }
    }

    private static void noSuchThing() {
        Check.sentence("Terms", "a THING (0 .. 15)");
        ShipSets x = Check.withTellers(1);
        for (int thing : Check.outside(0, 15)) {
            Check.due("thing " + thing, x.tell(0, 1, thing, 3, 0, 0), NONE);
        }
        Check.due("thing 16 with kind -1 is not thing 15 with kind 7", x.tell(0, 1, 16, -1, 0, 0), NONE);
        Check.due("thing -1 with kind 8 is not thing 0 with kind 0", x.tell(0, 1, -1, 8, 0, 0), NONE);
    }

    private static void noSuchKind() {
        Check.sentence("Terms", "a KIND (0 .. 7)");
        ShipSets x = Check.withTellers(1);
        for (int kind : Check.outside(0, 7)) {
            Check.due("kind " + kind, x.tell(0, 1, 5, kind, 0, 0), NONE);
        }
        Check.due("thing 5 with kind 8 is not thing 6 with kind 0", x.tell(0, 1, 5, 8, 0, 0), NONE);
        Check.due("thing 5 with kind -1 is not thing 4 with kind 7", x.tell(0, 1, 5, -1, 0, 0), NONE);
    }

    private static void noSuchValue() {
        Check.sentence("Terms", "a value (-1000000000 .. 1000000000)");
        ShipSets x = Check.withTellers(1);
        for (long v : Check.outside(-GREATEST, GREATEST)) {
            Check.due("value " + v, x.tell(0, 1, 0, 0, v, 0), NONE);
        }
        Check.due("NO_VALUE is none", x.tell(0, 1, 0, 0, NO_VALUE, 0), NONE);
    }

    private static void noSuchDay() {
        Check.sentence("Terms", "a day ON which it is known (0 .. 100000)");
        ShipSets x = Check.withTellers(1);
        for (int on : Check.outside(0, LAST_DAY)) {
            Check.due("day " + on, x.tell(0, 1, 0, 0, 0, on), NONE);
        }
    }

    private static void anotherWithThisNumber() {
        Check.sentence("Promise 3", "it told another one with this number");
        ShipSets x = Check.withTellers(1);
        x.tell(0, 7, 3, 2, -4, 9);
        Check.due("another thing", x.tell(0, 7, 4, 2, -4, 9), NONE);
        Check.due("another kind", x.tell(0, 7, 3, 1, -4, 9), NONE);
        Check.due("another value", x.tell(0, 7, 3, 2, -5, 9), NONE);
        Check.due("the value's opposite", x.tell(0, 7, 3, 2, 4, 9), NONE);
        Check.due("a day before", x.tell(0, 7, 3, 2, -4, 8), NONE);
        Check.due("a day later", x.tell(0, 7, 3, 2, -4, 10), NONE);
        Check.due("thing and kind exchanged", x.tell(0, 7, 2, 3, -4, 9), NONE);
        x.set(0);
        Check.due("the first stays", x.known(0, 3, 2, LAST_DAY), -4);
    }

    private static void numberOfAnotherTeller() {
        Check.sentence("Terms", "each teller and number once");
        ShipSets x = Check.withTellers(8);
        for (int teller = 0; teller < 8; teller++) {
            Check.due("number 1 of teller " + teller, x.tell(teller, 1, 0, 0, teller, 0), 1);
            Check.due("number 9999 of teller " + teller, x.tell(teller, 9999, 0, 0, teller, 0), 1);
        }
    }

    private static void tellWhenClosed() {
        Check.sentence("Promise 3", "it is closed");
        ShipSets x = Check.withTellers(1);
        Check.due("open", x.tell(0, 1, 0, 0, 1, 0), 1);
        x.close(0);
        Check.due("closed", x.tell(0, 2, 0, 0, 1, 0), NONE);
        Check.due("closed, and asked again", x.tell(0, 2, 0, 0, 1, 0), NONE);
        x.close(0);
        Check.due("it is not opened by a second close", x.tell(0, 2, 0, 0, 1, 0), NONE);
    }

    private static void closedTellsNoMore() {
        Check.sentence("Promise 17", "it tells no more");
        ShipSets x = Check.withTellers(2);
        x.tell(0, 5, 0, 0, 1, 0);
        x.block(0, 7, 7);
        x.number(0);
        x.close(0);
        Check.due("a lesser number", x.tell(0, 4, 0, 0, 1, 0), NONE);
        Check.due("a greater number", x.tell(0, 6, 0, 0, 1, 0), NONE);
        Check.due("a number that was given to it", x.tell(0, 7, 0, 0, 1, 0), NONE);
        Check.due("another one with its number", x.tell(0, 5, 0, 0, 2, 0), NONE);
        x.close(1);
        Check.due("one that told nothing", x.tell(1, 1, 0, 0, 1, 0), NONE);
    }

    private static ShipSets twoHundredTold() {
        ShipSets x = Check.withTellers(8);
        for (int i = 0; i < 200; i++) {
            Check.due("telling " + i, x.tell(i % 8, i + 1, i % 16, i % 8, i, i), 1);
        }
        return x;
    }

    private static void twoHundred() {
        Check.sentence("Promise 3", "or there are 200");
        ShipSets x = twoHundredTold();
        for (int teller = 0; teller < 8; teller++) {
            Check.due("one more of teller " + teller, x.tell(teller, 9999, 0, 0, 0, 0), NONE);
        }
        Check.due("still none", x.tell(0, 9998, 0, 0, 0, 0), NONE);
    }

    private static void twoHundredOfOneTeller() {
        Check.sentence("Terms", "There are 200 at most");
        ShipSets x = Check.withTellers(2);
        for (int i = 200; i >= 1; i--) {
            Check.due("number " + i, x.tell(0, i, 0, 0, i, 0), 1);
        }
        Check.due("one more of it", x.tell(0, 201, 0, 0, 0, 0), NONE);
        Check.due("the first of another", x.tell(1, 1, 0, 0, 0, 0), NONE);
        x.set(0);
        Check.due("the greatest number's", x.known(0, 0, 0, LAST_DAY), 200);
    }

    private static void doubledAndRefusedAreNotCounted() {
        Check.sentence("Terms", "There are 200 at most");
        ShipSets x = Check.withTellers(2);
        for (int i = 1; i <= 150; i++) {
            Check.due("told", x.tell(0, i, 0, 0, 1, 0), 1);
        }
        for (int i = 1; i <= 60; i++) {
            Check.due("doubled", x.tell(0, i, 0, 0, 1, 0), 0);
            Check.due("another with its number", x.tell(0, i, 0, 0, 2, 0), NONE);
        }
        for (int i = 1; i <= 50; i++) {
            Check.due("told by another", x.tell(1, i, 0, 0, 1, 0), 1);
        }
        Check.due("the 201st", x.tell(1, 51, 0, 0, 1, 0), NONE);
    }

    private static void closeOnce() {
        Check.sentence("Promise 17", "or it was");
        ShipSets x = Check.withTellers(8);
        for (int teller = 7; teller >= 0; teller--) {
            Check.due("close(" + teller + ")", x.close(teller), true);
            Check.due("close(" + teller + ") again", x.close(teller), false);
        }
        Check.due("and once more", x.close(7), false);
    }

    private static void closeNoneSuch() {
        Check.sentence("Promise 17", "False when there is none such");
        ShipSets x = Check.withTellers(3);
        for (int teller : Check.outside(0, 2)) {
            Check.due("close(" + teller + ")", x.close(teller), false);
        }
        x.teller();
        Check.due("one that came later is open", x.tell(3, 1, 0, 0, 0, 0), 1);
        Check.due("and can be closed", x.close(3), true);
    }

    private static void closeIsOfOneTeller() {
        Check.sentence("Promise 17", "A teller is closed");
        ShipSets x = Check.withTellers(3);
        x.close(1);
        Check.due("the one before tells", x.tell(0, 1, 0, 0, 0, 0), 1);
        Check.due("the one behind tells", x.tell(2, 1, 0, 0, 0, 0), 1);
        Check.due("it does not", x.tell(1, 1, 0, 0, 0, 0), NONE);
    }
}
