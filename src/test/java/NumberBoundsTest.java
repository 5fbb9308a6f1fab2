/** The boundary cases of promises 14 (block), 15 (number) and 16 (lost), a method for each. */
public final class NumberBoundsTest {
    private static final int NONE = ShipSets.NONE;

    public static void main(String[] args) {
        blocksAtTheirBounds();
        blockOfNoSuchNumber();
        blockWithToBelowFrom();
        blockOfNoSuchTeller();
        blocksEnd();
        refusedBlocksAreNotCounted();
        blocksWithANumberInCommon();
        blocksThatTouch();
        blocksBetweenBlocks();
        blocksOfTellersApart();
        blockOfNumbersToldWith();
        numbersOfTheBounds();
        numberIsTheLeast();
        numberNotToldWith();
        numberToldWithByAnother();
        numberToldWithAfterItWasGiven();
        numberNotGivenBefore();
        numbersAreUsedUp();
        numberWithoutBlocks();
        numberOfNoSuchTeller();
        lostUpToTheGreatest();
        lostWhenNothingWasTold();
        lostWhenNothingIsBetween();
        lostOfAllNumbers();
        lostSpansOfOne();
        lostOutsideOfBlocks();
        lostWithBlocksAtTheEnds();
        lostBehindSixBlocks();
        lostBesidesGivenNumbers();
        lostOfNoSuchSpan();
        lostOfNoSuchTeller();
        lostOfOtherEnds();
        Check.end("NumberBoundsTest");
    }

    private static void blocksAtTheirBounds() {
        Check.sentence("Terms", "a NUMBER (1 .. 9999)");
        ShipSets x = Check.withTellers(3);
        Check.due("1 .. 1", x.block(0, 1, 1), true);
        Check.due("9999 .. 9999", x.block(0, 9999, 9999), true);
        Check.due("2 .. 9998", x.block(0, 2, 9998), true);
        Check.due("1 .. 9999", x.block(1, 1, 9999), true);
        Check.due("one that is neither", x.block(2, 5000, 5000), true);
    }

    private static void blockOfNoSuchNumber() {
        Check.sentence("Promise 14", "False when a number is none such");
        ShipSets x = Check.withTellers(1);
        for (int n : Check.outside(1, 9999)) {
            Check.due("block(0, " + n + ", 9999)", x.block(0, n, 9999), false);
            Check.due("block(0, 1, " + n + ")", x.block(0, 1, n), false);
            Check.due("block(0, " + n + ", " + n + ")", x.block(0, n, n), false);
        }
        Check.due("0 .. 10000", x.block(0, 0, 10000), false);
        Check.due("there is no block", x.number(0), NONE);
    }

    private static void blockWithToBelowFrom() {
        Check.sentence("Promise 14", "to is less than from");
        ShipSets x = Check.withTellers(1);
        Check.due("5 .. 4", x.block(0, 5, 4), false);
        Check.due("9999 .. 1", x.block(0, 9999, 1), false);
        Check.due("2 .. 1", x.block(0, 2, 1), false);
        Check.due("there is no block", x.number(0), NONE);
        Check.due("5 .. 5", x.block(0, 5, 5), true);
    }

    private static void blockOfNoSuchTeller() {
        Check.sentence("Promise 14", "there is no such teller");
        ShipSets x = Check.withTellers(3);
        for (int teller : Check.outside(0, 2)) {
            Check.due("block(" + teller + ", 1, 1)", x.block(teller, 1, 1), false);
        }
        x.teller();
        Check.due("one that came later has none", x.number(3), NONE);
        Check.due("and gets one", x.block(3, 1, 1), true);
    }

    private static void blocksEnd() {
        Check.sentence("Promise 14", "it has 6");
        ShipSets x = Check.withTellers(2);
        int[] from = {50, 10, 60, 30, 20, 40};
        for (int n : from) {
            Check.due("block(0, " + n + ", " + (n + 1) + ")", x.block(0, n, n + 1), true);
        }
        Check.due("the seventh, before all", x.block(0, 1, 1), false);
        Check.due("the seventh, between", x.block(0, 35, 36), false);
        Check.due("the seventh, behind all", x.block(0, 9999, 9999), false);
        Check.due("another teller's first", x.block(1, 1, 1), true);
        for (int n = 10; n <= 60; n += 10) {
            Check.due("number " + n, x.number(0), n);
            Check.due("number " + (n + 1), x.number(0), n + 1);
        }
        Check.due("used up", x.number(0), NONE);
        Check.due("used up blocks are blocks still", x.block(0, 70, 70), false);
    }

    private static void refusedBlocksAreNotCounted() {
        Check.sentence("Terms", "BLOCKS are spans of numbers of a teller, 6 at most");
        ShipSets x = Check.withTellers(1);
        for (int i = 1; i <= 6; i++) {
            Check.due("refused", x.block(0, i * 10, i * 10 - 1), false);
            Check.due("block " + i, x.block(0, i * 10, i * 10), true);
            Check.due("again", x.block(0, i * 10, i * 10), false);
        }
        Check.due("the seventh", x.block(0, 1, 1), false);
    }

    private static void blocksWithANumberInCommon() {
        Check.sentence("Promise 14", "or one of these numbers is in another one of it");
        ShipSets x = Check.withTellers(1);
        x.block(0, 100, 110);
        Check.due("the same", x.block(0, 100, 110), false);
        Check.due("inside", x.block(0, 105, 105), false);
        Check.due("around", x.block(0, 99, 111), false);
        Check.due("its first number at the end", x.block(0, 90, 100), false);
        Check.due("its last number at the begin", x.block(0, 110, 120), false);
        Check.due("its first number alone", x.block(0, 100, 100), false);
        Check.due("its last number alone", x.block(0, 110, 110), false);
        Check.due("all numbers", x.block(0, 1, 9999), false);
        Check.due("from its begin on", x.block(0, 100, 9999), false);
        Check.due("up to its end", x.block(0, 1, 110), false);
        for (int i = 0; i < 3; i++) {
            x.number(0);
        }
        Check.due("numbers that were given are in it still", x.block(0, 100, 102), false);
    }

    private static void blocksThatTouch() {
        Check.sentence("Terms", "no two of one teller with a number in common");
        ShipSets x = Check.withTellers(1);
        Check.due("100 .. 110", x.block(0, 100, 110), true);
        Check.due("just before", x.block(0, 99, 99), true);
        Check.due("just behind", x.block(0, 111, 111), true);
        Check.due("just before that", x.block(0, 1, 98), true);
        Check.due("just behind that", x.block(0, 112, 9999), true);
    }

    private static void blocksBetweenBlocks() {
        Check.sentence("Promise 14", "or one of these numbers is in another one of it");
        ShipSets x = Check.withTellers(1);
        x.block(0, 10, 10);
        x.block(0, 30, 30);
        x.block(0, 20, 20);
        Check.due("over the middle one", x.block(0, 11, 29), false);
        Check.due("into the middle one", x.block(0, 11, 20), false);
        Check.due("out of the middle one", x.block(0, 20, 29), false);
        Check.due("fits before it", x.block(0, 11, 19), true);
        Check.due("fits behind it", x.block(0, 21, 29), true);
    }

    private static void blocksOfTellersApart() {
        Check.sentence("Terms", "no two of one teller with a number in common");
        ShipSets x = Check.withTellers(8);
        for (int teller = 0; teller < 8; teller++) {
            Check.due("1 .. 9999 of teller " + teller, x.block(teller, 1, 9999), true);
            Check.due("its first number", x.number(teller), 1);
        }
    }

    private static void blockOfNumbersToldWith() {
        Check.sentence("Promise 14", "A BLOCK");
        ShipSets x = Check.withTellers(1);
        x.tell(0, 5, 0, 0, 0, 0);
        Check.due("a number told with is free for a block", x.block(0, 5, 5), true);
        Check.due("but is not given", x.number(0), NONE);
    }

    private static void numbersOfTheBounds() {
        Check.sentence("Promise 15", "it is given now");
        ShipSets x = Check.withTellers(1);
        x.block(0, 9999, 9999);
        x.block(0, 1, 1);
        Check.due("the least of all", x.number(0), 1);
        Check.due("the greatest of all", x.number(0), 9999);
        Check.due("no more", x.number(0), NONE);
    }

    private static void numberIsTheLeast() {
        Check.sentence("Promise 15", "The least number in a teller's BLOCKS");
        ShipSets x = Check.withTellers(1);
        x.block(0, 50, 51);
        x.block(0, 70, 70);
        Check.due("50", x.number(0), 50);
        x.block(0, 60, 60);
        x.block(0, 40, 41);
        Check.due("of a block that came later", x.number(0), 40);
        Check.due("41", x.number(0), 41);
        Check.due("51", x.number(0), 51);
        Check.due("60", x.number(0), 60);
        x.block(0, 52, 52);
        Check.due("52", x.number(0), 52);
        Check.due("70", x.number(0), 70);
        Check.due("none", x.number(0), NONE);
    }

    private static void numberNotToldWith() {
        Check.sentence("Promise 15", "that it did not tell with");
        ShipSets x = Check.withTellers(1);
        x.tell(0, 10, 0, 0, 0, 0);
        x.block(0, 10, 15);
        x.tell(0, 12, 0, 0, 0, 0);
        x.tell(0, 15, 0, 0, 0, 0);
        Check.due("the first was told with", x.number(0), 11);
        Check.due("one between was told with", x.number(0), 13);
        x.tell(0, 14, 0, 0, 0, 0);
        Check.due("all others were told with", x.number(0), NONE);
        x.block(0, 20, 22);
        x.close(0);
        x.tell(0, 20, 0, 0, 0, 0);
        Check.due("a refused telling is none", x.number(0), 20);
    }

    private static void numberToldWithByAnother() {
        Check.sentence("Promise 15", "that it did not tell with");
        ShipSets x = Check.withTellers(2);
        x.tell(1, 10, 0, 0, 0, 0);
        x.block(0, 10, 10);
        x.block(1, 10, 11);
        Check.due("another's number", x.number(0), 10);
        Check.due("its own", x.number(1), 11);
    }

    private static void numberToldWithAfterItWasGiven() {
        Check.sentence("Promise 15", "that was not given so before");
        ShipSets x = Check.withTellers(1);
        x.block(0, 10, 12);
        Check.due("10", x.number(0), 10);
        Check.due("told with it", x.tell(0, 10, 0, 0, 0, 0), 1);
        Check.due("11", x.number(0), 11);
        Check.due("12", x.number(0), 12);
        Check.due("11, not told with, is not given again", x.number(0), NONE);
    }

    private static void numberNotGivenBefore() {
        Check.sentence("Promise 15", "that was not given so before");
        ShipSets x = Check.withTellers(2);
        x.block(0, 1, 9999);
        x.block(1, 1, 9999);
        for (int n = 1; n <= 250; n++) {
            Check.due("number " + n, x.number(0), n);
        }
        Check.due("another teller's begin with the first", x.number(1), 1);
    }

    private static void numbersAreUsedUp() {
        Check.sentence("Promise 15", "NONE when there is none");
        ShipSets x = Check.withTellers(1);
        for (int i = 6; i >= 1; i--) {
            x.block(0, i, i);
        }
        for (int n = 1; n <= 6; n++) {
            Check.due("number " + n, x.number(0), n);
        }
        for (int i = 0; i < 3; i++) {
            Check.due("none", x.number(0), NONE);
        }
    }

    private static void numberWithoutBlocks() {
        Check.sentence("Promise 15", "NONE when there is none");
        ShipSets x = Check.withTellers(2);
        x.tell(0, 5, 0, 0, 0, 0);
        x.block(1, 1, 1);
        Check.due("without blocks", x.number(0), NONE);
    }

    private static void numberOfNoSuchTeller() {
        Check.sentence("Promise 15", "NONE when there is none");
        ShipSets x = Check.withTellers(3);
        for (int teller = 0; teller < 3; teller++) {
            x.block(teller, 1, 9);
        }
        for (int teller : Check.outside(0, 2)) {
            Check.due("number(" + teller + ")", x.number(teller), NONE);
        }
    }

    /** Asks for each span in turn, and that there is no other behind them. */
    private static void dueSpans(ShipSets x, int teller, int[][] spans) {
        for (int k = 0; k < spans.length; k++) {
            Check.due("lost(" + teller + ", " + k + ", 0)", x.lost(teller, k, 0), spans[k][0]);
            Check.due("lost(" + teller + ", " + k + ", 1)", x.lost(teller, k, 1), spans[k][1]);
        }
        Check.due("lost(" + teller + ", " + spans.length + ", 0)", x.lost(teller, spans.length, 0), NONE);
        Check.due("lost(" + teller + ", " + spans.length + ", 1)", x.lost(teller, spans.length, 1), NONE);
    }

    private static void tellWith(ShipSets x, int teller, int... numbers) {
        for (int number : numbers) {
            Check.due("tell with " + number, x.tell(teller, number, 0, 0, 0, 0), 1);
        }
    }

    private static void lostUpToTheGreatest() {
        Check.sentence("Promise 16", "from 1 to the greatest one that a teller told with");
        ShipSets x = Check.withTellers(2);
        tellWith(x, 0, 5, 3);
        tellWith(x, 1, 9);
        dueSpans(x, 0, new int[][] {{1, 2}, {4, 4}});
        tellWith(x, 0, 1);
        dueSpans(x, 0, new int[][] {{2, 2}, {4, 4}});
        tellWith(x, 0, 6);
        dueSpans(x, 0, new int[][] {{2, 2}, {4, 4}});
        tellWith(x, 0, 8);
        dueSpans(x, 0, new int[][] {{2, 2}, {4, 4}, {7, 7}});
    }

    private static void lostWhenNothingWasTold() {
        Check.sentence("Promise 16", "NONE when there is none such");
        ShipSets x = Check.withTellers(2);
        tellWith(x, 1, 9);
        dueSpans(x, 0, new int[][] {});
        x.block(0, 5, 9);
        dueSpans(x, 0, new int[][] {});
    }

    private static void lostWhenNothingIsBetween() {
        Check.sentence("Promise 16", "that it did not tell with");
        ShipSets x = Check.withTellers(1);
        tellWith(x, 0, 1);
        dueSpans(x, 0, new int[][] {});
        tellWith(x, 0, 3, 2);
        dueSpans(x, 0, new int[][] {});
    }

    private static void lostOfAllNumbers() {
        Check.sentence("Promise 16", "from 1 to the greatest one that a teller told with");
        ShipSets x = Check.withTellers(1);
        tellWith(x, 0, 9999);
        dueSpans(x, 0, new int[][] {{1, 9998}});
        tellWith(x, 0, 1);
        dueSpans(x, 0, new int[][] {{2, 9998}});
        tellWith(x, 0, 9998);
        dueSpans(x, 0, new int[][] {{2, 9997}});
    }

    private static void lostSpansOfOne() {
        Check.sentence("Promise 16", "0 the first, 1 the last one");
        ShipSets x = Check.withTellers(1);
        tellWith(x, 0, 2);
        dueSpans(x, 0, new int[][] {{1, 1}});
        for (int i = 200; i >= 2; i--) {
            x.tell(0, 2 * i, 0, 0, 0, 0);
        }
        for (int k = 0; k < 200; k += 199) {
            Check.due("first of span " + k, x.lost(0, k, 0), 2 * k + 1);
            Check.due("last of span " + k, x.lost(0, k, 1), 2 * k + 1);
        }
        Check.due("span 200", x.lost(0, 200, 0), NONE);
    }

    private static void lostOutsideOfBlocks() {
        Check.sentence("Promise 16", "nor has in a BLOCK");
        ShipSets x = Check.withTellers(2);
        tellWith(x, 0, 20);
        x.block(1, 1, 9999);
        dueSpans(x, 0, new int[][] {{1, 19}});
        x.block(0, 10, 10);
        dueSpans(x, 0, new int[][] {{1, 9}, {11, 19}});
        x.block(0, 11, 12);
        dueSpans(x, 0, new int[][] {{1, 9}, {13, 19}});
        tellWith(x, 0, 13);
        dueSpans(x, 0, new int[][] {{1, 9}, {14, 19}});
        tellWith(x, 0, 11);
        dueSpans(x, 0, new int[][] {{1, 9}, {14, 19}});
    }

    private static void lostWithBlocksAtTheEnds() {
        Check.sentence("Promise 16", "nor has in a BLOCK");
        ShipSets x = Check.withTellers(2);
        tellWith(x, 0, 20);
        x.block(0, 1, 1);
        dueSpans(x, 0, new int[][] {{2, 19}});
        x.block(0, 19, 19);
        dueSpans(x, 0, new int[][] {{2, 18}});
        x.block(0, 20, 25);
        dueSpans(x, 0, new int[][] {{2, 18}});
        x.block(0, 2, 17);
        dueSpans(x, 0, new int[][] {{18, 18}});
        x.block(0, 18, 18);
        dueSpans(x, 0, new int[][] {});
        x.block(1, 1, 9999);
        tellWith(x, 1, 9999);
        dueSpans(x, 1, new int[][] {});
    }

    private static void lostBehindSixBlocks() {
        Check.sentence("Promise 16", "nor has in a BLOCK");
        ShipSets x = Check.withTellers(1);
        for (int i = 6; i >= 1; i--) {
            x.block(0, 10 * i, 10 * i + 1);
        }
        tellWith(x, 0, 70);
        dueSpans(x, 0, new int[][] {{1, 9}, {12, 19}, {22, 29}, {32, 39}, {42, 49}, {52, 59}, {62, 69}});
        tellWith(x, 0, 69);
        dueSpans(x, 0, new int[][] {{1, 9}, {12, 19}, {22, 29}, {32, 39}, {42, 49}, {52, 59}, {62, 68}});
    }

    private static void lostBesidesGivenNumbers() {
        Check.sentence("Promise 16", "the greatest one that a teller told with");
        ShipSets x = Check.withTellers(1);
        x.block(0, 8, 9);
        x.number(0);
        x.number(0);
        dueSpans(x, 0, new int[][] {});
        tellWith(x, 0, 3);
        dueSpans(x, 0, new int[][] {{1, 2}});
        Check.due("a refused telling", x.tell(0, 7, 0, 8, 0, 0), NONE);
        dueSpans(x, 0, new int[][] {{1, 2}});
        tellWith(x, 0, 9);
        dueSpans(x, 0, new int[][] {{1, 2}, {4, 7}});
        x.close(0);
        dueSpans(x, 0, new int[][] {{1, 2}, {4, 7}});
    }

    private static void lostOfNoSuchSpan() {
        Check.sentence("Promise 16", "NONE when there is none such");
        ShipSets x = Check.withTellers(1);
        tellWith(x, 0, 3, 6, 9);
        for (int k : Check.outside(0, 2)) {
            Check.due("lost(0, " + k + ", 0)", x.lost(0, k, 0), NONE);
            Check.due("lost(0, " + k + ", 1)", x.lost(0, k, 1), NONE);
        }
        dueSpans(x, 0, new int[][] {{1, 2}, {4, 5}, {7, 8}});
    }

    private static void lostOfNoSuchTeller() {
        Check.sentence("Promise 16", "NONE when there is none such");
        ShipSets x = Check.withTellers(3);
        for (int teller = 0; teller < 3; teller++) {
            tellWith(x, teller, 9);
        }
        for (int teller : Check.outside(0, 2)) {
            Check.due("lost(" + teller + ", 0, 0)", x.lost(teller, 0, 0), NONE);
            Check.due("lost(" + teller + ", 0, 1)", x.lost(teller, 0, 1), NONE);
        }
    }

    private static void lostOfOtherEnds() {
        Check.sentence("Promise 16", "or for others");
        ShipSets x = Check.withTellers(1);
        tellWith(x, 0, 9);
        for (int end : Check.outside(0, 1)) {
            Check.due("lost(0, 0, " + end + ")", x.lost(0, 0, end), NONE);
        }
    }
}
