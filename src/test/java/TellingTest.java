/** Promises 1 (a new object), 2 (teller), 3 (tell) and 17 (close). */
public final class TellingTest {
    private static final int NONE = ShipSets.NONE;
    private static final long NO_VALUE = ShipSets.NO_VALUE;

    public static void main(String[] args) {
        constants();
        newObject();
        tellers();
        tellAndTellAgain();
        tellAtTheEdges();
        tellWrongly();
        tellTwoHundred();
        refusedChangesNothing();
        close();
        Check.end("TellingTest");
    }

    private static void constants() {
        Check.due("NONE", ShipSets.NONE, -1);
        Check.due("NO_VALUE", ShipSets.NO_VALUE, Long.MIN_VALUE);
    }

    private static void newObject() {
        ShipSets x = new ShipSets();
        for (int teller = 0; teller < 8; teller++) {
            Check.due("tell, no teller", x.tell(teller, 1, 0, 0, 5, 0), NONE);
            Check.due("set, no teller", x.set(teller), NONE);
            Check.due("block, no teller", x.block(teller, 1, 1), false);
            Check.due("close, no teller", x.close(teller), false);
        }
        Check.due("known, no set", x.known(0, 0, 0, 0), NO_VALUE);
        Check.due("batch, no set", x.batch(0), false);
        x.teller();
        for (int kind = 0; kind < 8; kind++) {
            x.tell(0, kind + 1, 0, kind, 5, 0);
        }
        x.set(0);
        for (int person = 0; person < 10; person++) {
            for (int kind = 0; kind < 8; kind++) {
                Check.due("seen, without a right", x.seen(person, 0, 0, kind), NO_VALUE);
            }
        }
    }

    private static void tellers() {
        ShipSets x = Check.withTellers(8);
        Check.due("teller 9", x.teller(), NONE);
        Check.due("teller 10", x.teller(), NONE);
        Check.due("tell by the last", x.tell(7, 1, 0, 0, 1, 0), 1);
        Check.due("tell by none such", x.tell(8, 1, 0, 0, 1, 0), NONE);
        Check.due("another object has its own", new ShipSets().teller(), 0);
    }

    private static void tellAndTellAgain() {
        ShipSets x = Check.withTellers(2);
        Check.due("tell", x.tell(0, 7, 3, 2, -4, 9), 1);
        Check.due("tell the same", x.tell(0, 7, 3, 2, -4, 9), 0);
        Check.due("another thing", x.tell(0, 7, 4, 2, -4, 9), NONE);
        Check.due("another kind", x.tell(0, 7, 3, 3, -4, 9), NONE);
        Check.due("another thing and kind", x.tell(0, 7, 2, 7, -4, 9), NONE);
        Check.due("another value", x.tell(0, 7, 3, 2, 4, 9), NONE);
        Check.due("another day", x.tell(0, 7, 3, 2, -4, 8), NONE);
        Check.due("another teller, the same number", x.tell(1, 7, 4, 2, 1, 9), 1);
        Check.due("another number", x.tell(0, 6, 4, 2, -4, 9), 1);
        Check.due("a number between", x.tell(0, 8, 4, 2, -4, 9), 1);
        Check.due("the first again", x.tell(0, 7, 3, 2, -4, 9), 0);
        Check.due("the lesser again", x.tell(0, 6, 4, 2, -4, 9), 0);
        Check.due("the greater again", x.tell(0, 8, 4, 2, -4, 9), 0);
    }

    private static void tellAtTheEdges() {
        ShipSets x = Check.withTellers(1);
        Check.due("all least", x.tell(0, 1, 0, 0, -1000000000L, 0), 1);
        Check.due("all greatest", x.tell(0, 9999, 15, 7, 1000000000L, 100000), 1);
        x.set(0);
        Check.due("known, all least", x.known(0, 0, 0, 0), -1000000000L);
        Check.due("known, all greatest", x.known(0, 15, 7, 100000), 1000000000L);
        Check.due("known, a day before", x.known(0, 15, 7, 99999), NO_VALUE);
    }

    private static void tellWrongly() {
        ShipSets x = Check.withTellers(1);
        int[] wrongTellers = {-1, 1, 8, Integer.MIN_VALUE, Integer.MAX_VALUE};
        for (int teller : wrongTellers) {
            Check.due("teller " + teller, x.tell(teller, 1, 0, 0, 0, 0), NONE);
        }
        int[] wrongNumbers = {0, -1, 10000, Integer.MIN_VALUE, Integer.MAX_VALUE};
        for (int number : wrongNumbers) {
            Check.due("number " + number, x.tell(0, number, 0, 0, 0, 0), NONE);
        }
        int[] wrongThings = {-1, 16, Integer.MIN_VALUE, Integer.MAX_VALUE};
        for (int thing : wrongThings) {
            Check.due("thing " + thing, x.tell(0, 1, thing, 0, 0, 0), NONE);
        }
        int[] wrongKinds = {-1, 8, Integer.MIN_VALUE, Integer.MAX_VALUE};
        for (int kind : wrongKinds) {
            Check.due("kind " + kind, x.tell(0, 1, 1, kind, 0, 0), NONE);
        }
        long[] wrongValues = {-1000000001L, 1000000001L, 1L << 32, Long.MIN_VALUE, Long.MAX_VALUE};
        for (long v : wrongValues) {
            Check.due("value " + v, x.tell(0, 1, 0, 0, v, 0), NONE);
        }
        int[] wrongDays = {-1, 100001, Integer.MIN_VALUE, Integer.MAX_VALUE};
        for (int on : wrongDays) {
            Check.due("day " + on, x.tell(0, 1, 0, 0, 0, on), NONE);
        }
        Check.due("the number is free still", x.tell(0, 1, 0, 0, 0, 0), 1);
    }

    private static void tellTwoHundred() {
        ShipSets x = Check.withTellers(8);
        for (int i = 0; i < 200; i++) {
            Check.due("telling " + i, x.tell(i % 8, 9000 - i, i % 16, i % 7, i, i), 1);
        }
        Check.due("one more", x.tell(0, 1, 0, 0, 0, 0), NONE);
        Check.due("one more of another", x.tell(7, 1, 0, 0, 0, 0), NONE);
        for (int i = 0; i < 200; i++) {
            Check.due("telling " + i + " again", x.tell(i % 8, 9000 - i, i % 16, i % 7, i, i), 0);
        }
        Check.due("another one with a number", x.tell(0, 9000, 0, 0, 1, 0), NONE);
    }

    private static void refusedChangesNothing() {
        ShipSets x = Check.withTellers(1);
        x.tell(0, 5, 0, 0, 1, 3);
        x.tell(0, 5, 0, 0, 2, 3);
        x.tell(0, 6, 0, 0, 2, 100001);
        x.tell(0, 10000, 0, 0, 2, 1);
        x.set(0);
        Check.due("known", x.known(0, 0, 0, 100000), 1);
        Check.due("lost first", x.lost(0, 0, 0), 1);
        Check.due("lost last", x.lost(0, 0, 1), 4);
        Check.due("lost no more", x.lost(0, 1, 0), NONE);
    }

    private static void close() {
        ShipSets x = Check.withTellers(2);
        x.tell(0, 1, 0, 0, 5, 10);
        Check.due("close(-1)", x.close(-1), false);
        Check.due("close(2)", x.close(2), false);
        Check.due("close(8)", x.close(8), false);
        Check.due("close", x.close(0), true);
        Check.due("close again", x.close(0), false);
        Check.due("tells no more", x.tell(0, 2, 0, 0, 5, 10), NONE);
        Check.due("told before", x.tell(0, 1, 0, 0, 5, 10), 0);
        Check.due("another one with the number", x.tell(0, 1, 0, 0, 6, 10), NONE);
        Check.due("the other teller is open", x.tell(1, 2, 0, 0, 5, 10), 1);
        Check.due("a set of a closed one", x.set(0), 0);
        Check.due("its value", x.known(0, 0, 0, 10), 5);
        Check.due("a block of a closed one", x.block(0, 4, 5), true);
        Check.due("a number of a closed one", x.number(0), 4);
        Check.due("a mark of a closed one", x.mark(0, 4, 5), true);
    }
}
