/** The boundary cases of promises 18 (mark) and 19 (corrected), a method for each. */
public final class ClockBoundsTest {
    private static final int NONE = ShipSets.NONE;
    private static final long LAST = 1000000000L;

    public static void main(String[] args) {
        marksAtTheirBounds();
        markOfNoSuchSecond();
        markOfNoSuchTeller();
        marksEnd();
        refusedMarksAreNotCounted();
        secondNotAbove();
        realNotAbove();
        aboveTheOneBefore();
        firstMarkIsFree();
        marksOfTellersApart();
        withoutMarks();
        withOneMark();
        withOneMarkAtTheBounds();
        betweenTwoMarks();
        atAMark();
        beforeThemAll();
        behindThemAll();
        eachPairOfMarks();
        inLowestTerms();
        zeroAndBelow();
        greatNumbers();
        secondsOutside();
        correctedOfNoSuchTeller();
        otherParts();
        Check.end("ClockBoundsTest");
    }

    private static void dueSecond(ShipSets x, int teller, long second, long above, long below) {
        Check.due("corrected(" + teller + ", " + second + ", 0)", x.corrected(teller, second, 0), above);
        Check.due("corrected(" + teller + ", " + second + ", 1)", x.corrected(teller, second, 1), below);
    }

    private static void marksAtTheirBounds() {
        Check.sentence("Terms", "are a second of its clock and a true one (0 .. 1000000000)");
        ShipSets x = Check.withTellers(3);
        Check.due("both least", x.mark(0, 0, 0), true);
        Check.due("both greatest", x.mark(0, LAST, LAST), true);
        Check.due("least and greatest", x.mark(1, 0, LAST), true);
        Check.due("greatest and least", x.mark(2, LAST, 0), true);
    }

    private static void markOfNoSuchSecond() {
        Check.sentence("Promise 18", "False when a number is none such");
        ShipSets x = Check.withTellers(1);
        for (long n : Check.outside(0, LAST)) {
            Check.due("mark(0, " + n + ", 1)", x.mark(0, n, 1), false);
            Check.due("mark(0, 1, " + n + ")", x.mark(0, 1, n), false);
        }
        x.mark(0, 5, 5);
        Check.due("a second above the greatest", x.mark(0, LAST + 1, 6), false);
        Check.due("a true one above the greatest", x.mark(0, 6, LAST + 1), false);
        dueSecond(x, 0, 7, 7, 1);
    }

    private static void markOfNoSuchTeller() {
        Check.sentence("Promise 18", "there is no such teller");
        ShipSets x = Check.withTellers(3);
        for (int teller : Check.outside(0, 2)) {
            Check.due("mark(" + teller + ", 1, 9)", x.mark(teller, 1, 9), false);
        }
        x.teller();
        dueSecond(x, 3, 1, 1, 1);
    }

    private static void marksEnd() {
        Check.sentence("Promise 18", "it has 6");
        ShipSets x = Check.withTellers(2);
        for (int i = 1; i <= 6; i++) {
            Check.due("mark " + i, x.mark(0, i, 10 * i), true);
        }
        Check.due("the seventh", x.mark(0, 7, 71), false);
        Check.due("again", x.mark(0, LAST, LAST), false);
        dueSecond(x, 0, 7, 70, 1);
        Check.due("another teller's first", x.mark(1, 1, 1), true);
    }

    private static void refusedMarksAreNotCounted() {
        Check.sentence("Terms", "MARKS of a teller, 6 at most");
        ShipSets x = Check.withTellers(1);
        for (int i = 1; i <= 6; i++) {
            Check.due("refused", x.mark(0, i, -1), false);
            Check.due("mark " + i, x.mark(0, i, i), true);
            Check.due("again", x.mark(0, i, i), false);
        }
        Check.due("the seventh", x.mark(0, 7, 7), false);
    }

    private static void secondNotAbove() {
        Check.sentence("Promise 18", "or one of both is not above that of the one before");
        ShipSets x = Check.withTellers(1);
        x.mark(0, 50, 60);
        Check.due("the same second", x.mark(0, 50, 61), false);
        Check.due("one below", x.mark(0, 49, 61), false);
        Check.due("the least", x.mark(0, 0, LAST), false);
        Check.due("one above", x.mark(0, 51, LAST), true);
    }

    private static void realNotAbove() {
        Check.sentence("Promise 18", "or one of both is not above that of the one before");
        ShipSets x = Check.withTellers(1);
        x.mark(0, 50, 60);
        Check.due("the same true second", x.mark(0, 51, 60), false);
        Check.due("one below", x.mark(0, 51, 59), false);
        Check.due("the least", x.mark(0, LAST, 0), false);
        Check.due("one above", x.mark(0, LAST, 61), true);
    }

    private static void aboveTheOneBefore() {
        Check.sentence("Promise 18", "that of the one before");
        ShipSets x = Check.withTellers(1);
        x.mark(0, 10, 10);
        x.mark(0, 20, 20);
        Check.due("above the first, not above the second", x.mark(0, 15, 15), false);
        Check.due("the second again", x.mark(0, 20, 20), false);
        Check.due("both just above", x.mark(0, 21, 21), true);
    }

    private static void firstMarkIsFree() {
        Check.sentence("Promise 18", "not above that of the one before");
        ShipSets x = Check.withTellers(2);
        Check.due("0 is not above 0, but there is none before", x.mark(0, 0, 0), true);
        Check.due("now there is", x.mark(0, 0, 0), false);
        Check.due("0 and another", x.mark(1, 0, 5), true);
    }

    private static void marksOfTellersApart() {
        Check.sentence("Terms", "MARKS of a teller");
        ShipSets x = Check.withTellers(8);
        for (int teller = 7; teller >= 0; teller--) {
            Check.due("mark of " + teller, x.mark(teller, 10, 10 + teller), true);
        }
        for (int teller = 0; teller < 8; teller++) {
            dueSecond(x, teller, 10, 10 + teller, 1);
        }
    }

    private static void withoutMarks() {
        Check.sentence("Promise 19", "Without marks the same");
        ShipSets x = Check.withTellers(1);
        dueSecond(x, 0, 0, 0, 1);
        dueSecond(x, 0, 1, 1, 1);
        dueSecond(x, 0, LAST, LAST, 1);
    }

    private static void withOneMark() {
        Check.sentence("Promise 19", "with one as far from it as the clock's");
        ShipSets x = Check.withTellers(1);
        x.mark(0, 100, 30);
        dueSecond(x, 0, 99, 29, 1);
        dueSecond(x, 0, 100, 30, 1);
        dueSecond(x, 0, 101, 31, 1);
        dueSecond(x, 0, 70, 0, 1);
        dueSecond(x, 0, 69, -1, 1);
    }

    private static void withOneMarkAtTheBounds() {
        Check.sentence("Promise 19", "with one as far from it as the clock's");
        ShipSets x = Check.withTellers(2);
        x.mark(0, LAST, 0);
        dueSecond(x, 0, 0, -LAST, 1);
        dueSecond(x, 0, LAST, 0, 1);
        x.mark(1, 0, LAST);
        dueSecond(x, 1, 0, LAST, 1);
        dueSecond(x, 1, LAST, 2 * LAST, 1);
    }

    private static void betweenTwoMarks() {
        Check.sentence("Promise 19", "by the straight line through the two marks between which it lies");
        ShipSets x = Check.withTellers(1);
        x.mark(0, 10, 100);
        x.mark(0, 13, 101);
        x.mark(0, 20, 201);
        dueSecond(x, 0, 11, 301, 3);
        dueSecond(x, 0, 12, 302, 3);
        dueSecond(x, 0, 14, 807, 7);
        dueSecond(x, 0, 19, 1307, 7);
    }

    private static void atAMark() {
        Check.sentence("Promise 19", "at a mark the mark's");
        ShipSets x = Check.withTellers(1);
        long[] seconds = {3, 10, 11, 500, 1000, 999999999L};
        long[] reals = {7, 8, 400, 401, 10000, 999999998L};
        for (int i = 0; i < 6; i++) {
            x.mark(0, seconds[i], reals[i]);
            for (int j = 0; j <= i; j++) {
                dueSecond(x, 0, seconds[j], reals[j], 1);
            }
        }
    }

    private static void beforeThemAll() {
        Check.sentence("Promise 19", "through the first two before them all");
        ShipSets x = Check.withTellers(1);
        x.mark(0, 10, 100);
        x.mark(0, 12, 103);
        x.mark(0, 13, 200);
        dueSecond(x, 0, 9, 197, 2);
        dueSecond(x, 0, 0, 85, 1);
    }

    private static void behindThemAll() {
        Check.sentence("Promise 19", "the last two behind");
        ShipSets x = Check.withTellers(1);
        x.mark(0, 10, 100);
        x.mark(0, 12, 103);
        dueSecond(x, 0, 13, 209, 2);
        x.mark(0, 15, 104);
        dueSecond(x, 0, 16, 313, 3);
        dueSecond(x, 0, 18, 105, 1);
        dueSecond(x, 0, LAST, LAST + 297, 3);
    }

    private static void eachPairOfMarks() {
        Check.sentence("Promise 19", "the two marks between which it lies");
        ShipSets x = Check.withTellers(1);
        // The line from mark i to the next rises by i + 1 in two seconds.
        long[] reals = {0, 1, 3, 6, 10, 15};
        for (int i = 0; i < 6; i++) {
            x.mark(0, 2 * i + 10, reals[i]);
        }
        dueSecond(x, 0, 11, 1, 2);
        dueSecond(x, 0, 13, 2, 1);
        dueSecond(x, 0, 15, 9, 2);
        dueSecond(x, 0, 17, 8, 1);
        dueSecond(x, 0, 19, 25, 2);
        dueSecond(x, 0, 21, 35, 2);
        dueSecond(x, 0, 9, -1, 2);
    }

    private static void inLowestTerms() {
        Check.sentence("Promise 19", "in lowest terms");
        ShipSets x = Check.withTellers(1);
        x.mark(0, 0, 0);
        x.mark(0, 360, 240);
        dueSecond(x, 0, 1, 2, 3);
        dueSecond(x, 0, 2, 4, 3);
        dueSecond(x, 0, 3, 2, 1);
        dueSecond(x, 0, 7, 14, 3);
        dueSecond(x, 0, 300, 200, 1);
        dueSecond(x, 0, 361, 722, 3);
    }

    private static void zeroAndBelow() {
        Check.sentence("Promise 19", "in lowest terms: part = 0 above, 1 below");
        ShipSets x = Check.withTellers(1);
        x.mark(0, 20, 10);
        x.mark(0, 26, 14);
        dueSecond(x, 0, 5, 0, 1);
        dueSecond(x, 0, 4, -2, 3);
        dueSecond(x, 0, 3, -4, 3);
        dueSecond(x, 0, 2, -2, 1);
        dueSecond(x, 0, 6, 2, 3);
    }

    private static void greatNumbers() {
        Check.sentence("Promise 19", "by the straight line through the two marks");
        ShipSets x = Check.withTellers(4);
        x.mark(0, 0, 0);
        x.mark(0, 1, LAST);
        dueSecond(x, 0, LAST, LAST * LAST, 1);
        x.mark(1, LAST - 1, 0);
        x.mark(1, LAST, LAST);
        dueSecond(x, 1, 0, -LAST * (LAST - 1), 1);
        x.mark(2, 0, LAST - 1);
        x.mark(2, LAST - 1, LAST);
        dueSecond(x, 2, 1, (LAST - 1) * (LAST - 1) + 1, LAST - 1);
        dueSecond(x, 2, LAST, LAST * (LAST - 1) + 1, LAST - 1);
        x.mark(3, 1, 0);
        x.mark(3, LAST, 1);
        dueSecond(x, 3, 0, -1, LAST - 1);
        dueSecond(x, 3, LAST - 1, LAST - 2, LAST - 1);
    }

    private static void secondsOutside() {
        Check.sentence("Promise 19", "one of a teller's clock (0 .. 1000000000)");
        ShipSets x = Check.withTellers(1);
        for (int marks = 0; marks <= 3; marks++) {
            for (long second : Check.outside(0, LAST)) {
                Check.due("corrected(0, " + second + ", 0)", x.corrected(0, second, 0), NONE);
                Check.due("corrected(0, " + second + ", 1)", x.corrected(0, second, 1), NONE);
            }
            x.mark(0, marks, 2 * marks);
        }
    }

    private static void correctedOfNoSuchTeller() {
        Check.sentence("Promise 19", "NONE when there is none such");
        ShipSets x = Check.withTellers(3);
        for (int teller : Check.outside(0, 2)) {
            Check.due("corrected(" + teller + ", 5, 0)", x.corrected(teller, 5, 0), NONE);
            Check.due("corrected(" + teller + ", 5, 1)", x.corrected(teller, 5, 1), NONE);
        }
    }

    private static void otherParts() {
        Check.sentence("Promise 19", "or for other parts");
        ShipSets x = Check.withTellers(1);
        for (int marks = 0; marks <= 3; marks++) {
            for (int part : Check.outside(0, 1)) {
                Check.due("corrected(0, 5, " + part + ")", x.corrected(0, 5, part), NONE);
            }
            x.mark(0, marks, 3 * marks);
        }
    }
}
