/** Promises 14 (block), 15 (number) and 16 (lost). */
public final class NumberTest {
    private static final int NONE = ShipSets.NONE;

    public static void main(String[] args) {
        blocksDoNotMeet();
        blocksAreSix();
        blockWrongly();
        numbersRise();
        numbersOfALaterBlock();
        numbersToldAndGiven();
        numberWrongly();
        lostSpans();
        lostAroundBlocks();
        lostAroundSixBlocks();
        lostAtTheEnds();
        lostWrongly();
        Check.end("NumberTest");
    }

    private static void blocksDoNotMeet() {
        ShipSets x = Check.withTellers(2);
        Check.due("10 .. 20", x.block(0, 10, 20), true);
        Check.due("the same", x.block(0, 10, 20), false);
        Check.due("inside", x.block(0, 12, 13), false);
        Check.due("around", x.block(0, 9, 21), false);
        Check.due("below into it", x.block(0, 1, 10), false);
        Check.due("above out of it", x.block(0, 20, 30), false);
        Check.due("just below", x.block(0, 5, 9), true);
        Check.due("just above", x.block(0, 21, 21), true);
        Check.due("between", x.block(0, 21, 25), false);
        Check.due("over all", x.block(0, 1, 9999), false);
        Check.due("another teller's", x.block(1, 1, 9999), true);
    }

    private static void blocksAreSix() {
        ShipSets x = Check.withTellers(2);
        Check.due("a refused one does not count", x.block(0, 2, 1), false);
        for (int i = 6; i >= 1; i--) {
            Check.due("block " + i, x.block(0, i * 10, i * 10 + 1), true);
            Check.due("block " + i + " again", x.block(0, i * 10, i * 10 + 1), false);
        }
        Check.due("block 7", x.block(0, 1, 1), false);
        Check.due("behind all", x.block(0, 9999, 9999), false);
        Check.due("another teller has none", x.block(1, 1, 1), true);
    }

    private static void blockWrongly() {
        ShipSets x = Check.withTellers(1);
        int[] wrongNumbers = {0, -1, 10000, Integer.MIN_VALUE, Integer.MAX_VALUE};
        for (int w : wrongNumbers) {
            Check.due("from " + w, x.block(0, w, 9999), false);
            Check.due("to " + w, x.block(0, 1, w), false);
        }
        Check.due("to below from", x.block(0, 5, 4), false);
        int[] wrongTellers = {-1, 1, 8, Integer.MIN_VALUE, Integer.MAX_VALUE};
        for (int w : wrongTellers) {
            Check.due("teller " + w, x.block(w, 1, 1), false);
        }
        Check.due("no number came of it", x.number(0), NONE);
        Check.due("all numbers", x.block(0, 1, 9999), true);
    }

    private static void numbersRise() {
        ShipSets x = Check.withTellers(2);
        x.block(0, 30, 31);
        x.block(0, 10, 11);
        x.block(0, 20, 20);
        x.block(1, 5, 5);
        int[] want = {10, 11, 20, 30, 31, NONE, NONE};
        for (int n : want) {
            Check.due("number", x.number(0), n);
        }
        Check.due("another teller's", x.number(1), 5);
        Check.due("no more", x.number(1), NONE);
    }

    private static void numbersOfALaterBlock() {
        ShipSets x = Check.withTellers(1);
        x.block(0, 10, 13);
        Check.due("the first", x.number(0), 10);
        x.block(0, 3, 4);
        Check.due("a lesser one now", x.number(0), 3);
        x.block(0, 14, 14);
        Check.due("and the next", x.number(0), 4);
        Check.due("then on from before", x.number(0), 11);
        x.block(0, 1, 1);
        Check.due("the least of all", x.number(0), 1);
        Check.due("on again", x.number(0), 12);
        Check.due("13", x.number(0), 13);
        Check.due("14", x.number(0), 14);
        Check.due("none", x.number(0), NONE);
    }

    private static void numbersToldAndGiven() {
        ShipSets x = Check.withTellers(2);
        x.block(0, 9995, 9999);
        x.tell(0, 9995, 0, 0, 1, 1);
        x.tell(1, 9996, 0, 0, 1, 1);
        Check.due("one told with is left out", x.number(0), 9996);
        x.tell(0, 9996, 0, 0, 1, 1);
        x.tell(0, 9998, 0, 0, 1, 1);
        Check.due("9997", x.number(0), 9997);
        Check.due("9999", x.number(0), 9999);
        Check.due("none", x.number(0), NONE);
        Check.due("a given number is told with", x.tell(0, 9999, 0, 0, 1, 1), 1);
        Check.due("a refused telling", x.tell(0, 3, 0, 9, 1, 1), NONE);
        x.block(0, 3, 3);
        Check.due("takes no number", x.number(0), 3);
    }

    private static void numberWrongly() {
        ShipSets x = Check.withTellers(1);
        int[] wrong = {-1, 1, 8, Integer.MIN_VALUE, Integer.MAX_VALUE};
        for (int teller : wrong) {
            Check.due("number(" + teller + ")", x.number(teller), NONE);
        }
        Check.due("without blocks", x.number(0), NONE);
    }

    /** Asks for each span in turn, and that there is no other behind them. */
    private static void dueSpans(ShipSets x, int teller, int[][] spans) {
        for (int k = 0; k < spans.length; k++) {
            Check.due("lost(" + teller + ", " + k + ", 0)", x.lost(teller, k, 0), spans[k][0]);
            Check.due("lost(" + teller + ", " + k + ", 1)", x.lost(teller, k, 1), spans[k][1]);
        }
        Check.due("no more lost spans", x.lost(teller, spans.length, 0), NONE);
        Check.due("no more lost spans, last", x.lost(teller, spans.length, 1), NONE);
    }

    private static void lostSpans() {
        ShipSets x = Check.withTellers(2);
        x.tell(0, 10, 0, 0, 0, 0);
        dueSpans(x, 0, new int[][] {{1, 9}});
        x.tell(0, 5, 0, 0, 0, 0);
        dueSpans(x, 0, new int[][] {{1, 4}, {6, 9}});
        x.tell(0, 6, 0, 0, 0, 0);
        x.tell(0, 1, 0, 0, 0, 0);
        dueSpans(x, 0, new int[][] {{2, 4}, {7, 9}});
        x.tell(0, 3, 0, 0, 0, 0);
        dueSpans(x, 0, new int[][] {{2, 2}, {4, 4}, {7, 9}});
        dueSpans(x, 1, new int[][] {});
        x.tell(1, 4, 0, 0, 0, 0);
        dueSpans(x, 1, new int[][] {{1, 3}});
    }

    private static void lostAroundBlocks() {
        ShipSets x = Check.withTellers(1);
        x.block(0, 3, 4);
        x.block(0, 5, 6);
        x.block(0, 29, 31);
        dueSpans(x, 0, new int[][] {});
        x.tell(0, 30, 0, 0, 0, 0);
        dueSpans(x, 0, new int[][] {{1, 2}, {7, 28}});
        x.tell(0, 5, 0, 0, 0, 0);
        x.number(0);
        dueSpans(x, 0, new int[][] {{1, 2}, {7, 28}});
        x.block(0, 10, 10);
        x.block(0, 1, 2);
        dueSpans(x, 0, new int[][] {{7, 9}, {11, 28}});
        x.tell(0, 40, 0, 0, 0, 0);
        dueSpans(x, 0, new int[][] {{7, 9}, {11, 28}, {32, 39}});
        x.block(0, 35, 50);
        dueSpans(x, 0, new int[][] {{7, 9}, {11, 28}, {32, 34}});
    }

    private static void lostAroundSixBlocks() {
        ShipSets x = Check.withTellers(1);
        for (int i = 6; i >= 1; i--) {
            x.block(0, 10 * i, 10 * i + 1);
        }
        x.tell(0, 5, 0, 0, 0, 0);
        x.tell(0, 25, 0, 0, 0, 0);
        x.tell(0, 70, 0, 0, 0, 0);
        dueSpans(x, 0, new int[][] {{1, 4}, {6, 9}, {12, 19}, {22, 24}, {26, 29}, {32, 39}, {42, 49}, {52, 59},
            {62, 69}});
    }

    private static void lostAtTheEnds() {
        ShipSets x = Check.withTellers(3);
        x.tell(0, 1, 0, 0, 0, 0);
        dueSpans(x, 0, new int[][] {});
        x.tell(0, 2, 0, 0, 0, 0);
        dueSpans(x, 0, new int[][] {});
        x.tell(1, 9999, 0, 0, 0, 0);
        dueSpans(x, 1, new int[][] {{1, 9998}});
        x.block(1, 2, 9997);
        dueSpans(x, 1, new int[][] {{1, 1}, {9998, 9998}});
        int[][] spans = new int[190][];
        for (int i = 0; i < 190; i++) {
            x.tell(2, 2 * (190 - i), 0, 0, 0, 0);
            spans[i] = new int[] {2 * i + 1, 2 * i + 1};
        }
        for (int k = 0; k < 190; k += 27) {
            Check.due("span " + k, x.lost(2, k, 0), spans[k][0]);
            Check.due("span " + k, x.lost(2, k, 1), spans[k][1]);
        }
        Check.due("span 189", x.lost(2, 189, 1), 379);
        Check.due("span 190", x.lost(2, 190, 0), NONE);
    }

    private static void lostWrongly() {
        ShipSets x = Check.withTellers(1);
        x.tell(0, 10, 0, 0, 0, 0);
        int[] wrong = {-1, 2, 8, Integer.MIN_VALUE, Integer.MAX_VALUE};
        for (int w : wrong) {
            Check.due("teller " + w, x.lost(w, 0, 0), NONE);
            Check.due("k " + w, x.lost(0, w, 0), NONE);
            Check.due("end " + w, x.lost(0, 0, w), NONE);
        }
        Check.due("no such teller", x.lost(1, 0, 0), NONE);
    }
}
