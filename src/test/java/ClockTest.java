/** Promises 18 (mark) and 19 (corrected). */
public final class ClockTest {
    private static final int NONE = ShipSets.NONE;
    private static final long LAST = 1000000000L;

    public static void main(String[] args) {
        marksRise();
        marksAreSix();
        markWrongly();
        withoutMarks();
        withOneMark();
        withTwoMarks();
        withSixMarks();
        greatNumbers();
        correctedWrongly();
        Check.end("ClockTest");
    }

    private static void dueSecond(ShipSets x, int teller, long second, long above, long below) {
        Check.due("corrected(" + teller + ", " + second + ", 0)", x.corrected(teller, second, 0), above);
        Check.due("corrected(" + teller + ", " + second + ", 1)", x.corrected(teller, second, 1), below);
    }

    private static void marksRise() {
        ShipSets x = Check.withTellers(2);
        Check.due("the first", x.mark(0, 50, 60), true);
        Check.due("the same", x.mark(0, 50, 60), false);
        Check.due("the second is not above", x.mark(0, 50, 61), false);
        Check.due("the true one is not above", x.mark(0, 51, 60), false);
        Check.due("one below", x.mark(0, 49, 61), false);
        Check.due("the other below", x.mark(0, 51, 59), false);
        Check.due("both above", x.mark(0, 51, 61), true);
        Check.due("not above the one before, above the first", x.mark(0, 51, 70), false);
        Check.due("another teller", x.mark(1, 0, 0), true);
    }

    private static void marksAreSix() {
        ShipSets x = Check.withTellers(1);
        for (int i = 1; i <= 6; i++) {
            Check.due("mark " + i, x.mark(0, i * 10, i * 20), true);
        }
        Check.due("mark 7", x.mark(0, 70, 140), false);
        dueSecond(x, 0, 70, 140, 1);
        dueSecond(x, 0, 80, 160, 1);
    }

    private static void markWrongly() {
        ShipSets x = Check.withTellers(1);
        long[] wrong = {-1, LAST + 1, 1L << 32, Long.MIN_VALUE, Long.MAX_VALUE};
        for (long w : wrong) {
            Check.due("second " + w, x.mark(0, w, 1), false);
            Check.due("real " + w, x.mark(0, 1, w), false);
        }
        int[] wrongTellers = {-1, 1, 8, Integer.MIN_VALUE, Integer.MAX_VALUE};
        for (int w : wrongTellers) {
            Check.due("teller " + w, x.mark(w, 1, 1), false);
        }
        dueSecond(x, 0, 7, 7, 1);
        Check.due("the least", x.mark(0, 0, 0), true);
        Check.due("the greatest", x.mark(0, LAST, LAST), true);
    }

    private static void withoutMarks() {
        ShipSets x = Check.withTellers(8);
        dueSecond(x, 7, 0, 0, 1);
        dueSecond(x, 7, 12345, 12345, 1);
        dueSecond(x, 7, LAST, LAST, 1);
    }

    private static void withOneMark() {
        ShipSets x = Check.withTellers(2);
        x.mark(0, 100, 30);
        dueSecond(x, 0, 100, 30, 1);
        dueSecond(x, 0, 101, 31, 1);
        dueSecond(x, 0, 70, 0, 1);
        dueSecond(x, 0, 0, -70, 1);
        dueSecond(x, 0, LAST, LAST - 70, 1);
        x.mark(1, 0, LAST);
        dueSecond(x, 1, LAST, 2 * LAST, 1);
    }

    private static void withTwoMarks() {
        ShipSets x = Check.withTellers(1);
        x.mark(0, 10, 5);
        x.mark(0, 16, 9);
        dueSecond(x, 0, 10, 5, 1);
        dueSecond(x, 0, 11, 17, 3);
        dueSecond(x, 0, 13, 7, 1);
        dueSecond(x, 0, 16, 9, 1);
        dueSecond(x, 0, 17, 29, 3);
        dueSecond(x, 0, 0, -5, 3);
        dueSecond(x, 0, 1, -1, 1);
        dueSecond(x, 0, 4, 1, 1);
        ShipSets y = Check.withTellers(1);
        y.mark(0, 4, 2);
        y.mark(0, 8, 4);
        dueSecond(y, 0, 0, 0, 1);
        dueSecond(y, 0, 1, 1, 2);
    }

    private static void withSixMarks() {
        ShipSets x = Check.withTellers(1);
        x.mark(0, 10, 100);
        x.mark(0, 12, 101);
        x.mark(0, 15, 105);
        x.mark(0, 20, 112);
        x.mark(0, 30, 113);
        x.mark(0, 37, 133);
        dueSecond(x, 0, 0, 95, 1);
        dueSecond(x, 0, 9, 199, 2);
        dueSecond(x, 0, 11, 201, 2);
        dueSecond(x, 0, 12, 101, 1);
        dueSecond(x, 0, 13, 307, 3);
        dueSecond(x, 0, 15, 105, 1);
        dueSecond(x, 0, 16, 532, 5);
        dueSecond(x, 0, 20, 112, 1);
        dueSecond(x, 0, 24, 562, 5);
        dueSecond(x, 0, 30, 113, 1);
        dueSecond(x, 0, 31, 811, 7);
        dueSecond(x, 0, 37, 133, 1);
        dueSecond(x, 0, 38, 951, 7);
    }

    private static void greatNumbers() {
        ShipSets x = Check.withTellers(3);
        x.mark(0, 0, 0);
        x.mark(0, 1, LAST);
        dueSecond(x, 0, LAST, LAST * LAST, 1);
        x.mark(1, LAST - 1, 0);
        x.mark(1, LAST, LAST);
        dueSecond(x, 1, 0, -LAST * (LAST - 1), 1);
        dueSecond(x, 1, LAST, LAST, 1);
        x.mark(2, 1, LAST - 1);
        x.mark(2, LAST, LAST);
        // (LAST - 1) + (s - 1) / (LAST - 1)
        dueSecond(x, 2, 2, (LAST - 1) * (LAST - 1) + 1, LAST - 1);
        dueSecond(x, 2, 0, (LAST - 1) * (LAST - 1) - 1, LAST - 1);
    }

    private static void correctedWrongly() {
        ShipSets x = Check.withTellers(1);
        for (int marks = 0; marks < 3; marks++) {
            long[] wrongSeconds = {-1, LAST + 1, 1L << 32, Long.MIN_VALUE, Long.MAX_VALUE};
            for (long w : wrongSeconds) {
                Check.due("second " + w, x.corrected(0, w, 0), NONE);
                Check.due("second " + w, x.corrected(0, w, 1), NONE);
            }
            int[] wrong = {-1, 2, 8, Integer.MIN_VALUE, Integer.MAX_VALUE};
            for (int w : wrong) {
                Check.due("part " + w, x.corrected(0, 5, w), NONE);
                Check.due("teller " + w, x.corrected(w, 5, 0), NONE);
            }
            Check.due("no such teller", x.corrected(1, 5, 0), NONE);
            x.mark(0, marks * 3, marks * 4);
        }
    }
}
