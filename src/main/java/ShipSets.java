import java.util.ArrayList;
import java.util.Arrays;

/** What ships and desks tell off line, as sets that are joined in any order. */
public final class ShipSets {
    public static final int NONE = -1;
    public static final long NO_VALUE = Long.MIN_VALUE;

    private static final int TELLERS = 8;
    private static final int TELLINGS = 200;
    private static final int LAST_NUMBER = 9999;
    private static final int THINGS = 16;
    private static final int KINDS = 8;
    private static final int CELLS = THINGS * KINDS;
    private static final long GREATEST_VALUE = 1000000000L;
    private static final int LAST_DAY = 100000;
    private static final int SETS = 12;
    private static final int SETTLINGS = 40;
    private static final int PERSONS = 10;
    private static final int BLOCKS = 6;
    private static final int MARKS = 6;
    private static final long LAST_SECOND = 1000000000L;
    // Euclid's way needs fewer steps than this for any two longs.
    private static final int DIVISOR_STEPS = 100;

    private final ArrayList<Teller> tellers = new ArrayList<>();
    private final ArrayList<ShipSet> sets = new ArrayList<>();
    private final ArrayList<Settling> settlings = new ArrayList<>();
    private final Telling[] newest = new Telling[CELLS];
    private final boolean[] rights = new boolean[PERSONS * KINDS];
    private final Current current = new Current();
    private int tellings = 0;

    public ShipSets() {
    }

    public int teller() {
        if (tellers.size() >= TELLERS) {
            return NONE;
        }
        tellers.add(new Teller());
        return tellers.size() - 1;
    }

    public int tell(int teller, int number, int thing, int kind, long v, int on) {
        Teller by = tellerAt(teller);
        int cell = cellOf(thing, kind);
        if (by == null || cell == NONE || !isNumber(number) || !isValue(v) || !isDay(on)) {
            return NONE;
        }
        Telling before = by.toldWith(number);
        if (before != null) {
            return before.says(cell, v, on) ? 0 : NONE;
        }
        if (by.closed || tellings >= TELLINGS) {
            return NONE;
        }
        Telling made = new Telling(teller, by.told.size(), number, cell, v, on, newest[cell]);
        by.keep(made);
        newest[cell] = made;
        tellings++;
        return 1;
    }

    public int set(int teller) {
        Teller by = tellerAt(teller);
        if (by == null || sets.size() >= SETS) {
            return NONE;
        }
        ShipSet made = new ShipSet();
        made.now.toldBy[teller] = by.told.size();
        sets.add(made);
        return sets.size() - 1;
    }

    public int join(int set, int other) {
        ShipSet into = setAt(set);
        ShipSet from = setAt(other);
        if (into == null || from == null) {
            return NONE;
        }
        into.now.takeAllOf(from.now);
        return countConflicts(into.now);
    }

    public boolean equal(int set, int other) {
        ShipSet one = setAt(set);
        ShipSet two = setAt(other);
        return one != null && two != null && one.now.isSameAs(two.now);
    }

    public long known(int set, int thing, int kind, int day) {
        ShipSet of = setAt(set);
        int cell = cellOf(thing, kind);
        if (of == null || cell == NONE) {
            return NO_VALUE;
        }
        return valueOn(of.now, cell, day);
    }

    public int conflict(int set, int k, int what) {
        ShipSet of = setAt(set);
        if (of == null) {
            return NONE;
        }
        int cell = cellInConflict(of.now, k);
        if (cell == NONE) {
            return NONE;
        }
        switch (what) {
            case 0:
                return cell / KINDS;
            case 1:
                return cell % KINDS;
            case 2:
                findCurrent(of.now, cell, LAST_DAY);
                return current.count();
            default:
                return NONE;
        }
    }

    public int settle(int set, int thing, int kind, int teller) {
        ShipSet into = setAt(set);
        int cell = cellOf(thing, kind);
        if (into == null || cell == NONE || tellerAt(teller) == null || settlings.size() >= SETTLINGS) {
            return NONE;
        }
        findCurrent(into.now, cell, LAST_DAY);
        if (!current.has(teller)) {
            return NONE;
        }
        into.now.takeSettling(settlings.size());
        settlings.add(new Settling(cell, teller, current));
        return settlings.size();
    }

    public boolean batch(int set) {
        ShipSet of = setAt(set);
        if (of == null || of.inBatch) {
            return false;
        }
        of.inBatch = true;
        of.shown.becomeLike(of.now);
        return true;
    }

    public boolean endBatch(int set) {
        ShipSet of = setAt(set);
        if (of == null || !of.inBatch) {
            return false;
        }
        of.inBatch = false;
        return true;
    }

    public boolean right(int person, int kind, boolean on) {
        if (!isPerson(person) || !isKind(kind)) {
            return false;
        }
        rights[person * KINDS + kind] = on;
        return true;
    }

    public long seen(int person, int set, int thing, int kind) {
        ShipSet of = setAt(set);
        int cell = cellOf(thing, kind);
        if (of == null || cell == NONE || !isPerson(person) || !rights[person * KINDS + kind]) {
            return NO_VALUE;
        }
        return valueOn(of.inBatch ? of.shown : of.now, cell, LAST_DAY);
    }

    public boolean block(int teller, int from, int to) {
        Teller of = tellerAt(teller);
        if (of == null || !isNumber(from) || !isNumber(to) || to < from) {
            return false;
        }
        return of.blocks.add(from, to);
    }

    public int number(int teller) {
        Teller of = tellerAt(teller);
        return of == null ? NONE : of.giveNumber();
    }

    public int lost(int teller, int k, int end) {
        Teller of = tellerAt(teller);
        if (of == null || k < 0 || end < 0 || end > 1) {
            return NONE;
        }
        return of.endOfLostSpan(k, end);
    }

    public boolean close(int teller) {
        Teller of = tellerAt(teller);
        if (of == null || of.closed) {
            return false;
        }
        of.closed = true;
        return true;
    }

    public boolean mark(int teller, long second, long real) {
        Teller of = tellerAt(teller);
        return of != null && isSecond(second) && isSecond(real) && of.clock.add(second, real);
    }

    public long corrected(int teller, long second, int part) {
        Teller of = tellerAt(teller);
        if (of == null || !isSecond(second) || part < 0 || part > 1) {
            return NONE;
        }
        return of.clock.trueSecond(second, part);
    }

    private static boolean isNumber(int number) {
        return number >= 1 && number <= LAST_NUMBER;
    }

    private static boolean isKind(int kind) {
        return kind >= 0 && kind < KINDS;
    }

    private static boolean isValue(long v) {
        return v >= -GREATEST_VALUE && v <= GREATEST_VALUE;
    }

    private static boolean isDay(int day) {
        return day >= 0 && day <= LAST_DAY;
    }

    private static boolean isPerson(int person) {
        return person >= 0 && person < PERSONS;
    }

    private static boolean isSecond(long second) {
        return second >= 0 && second <= LAST_SECOND;
    }

    /** The place of a thing and kind in the order by things, then kinds; NONE when there are none such. */
    private static int cellOf(int thing, int kind) {
        if (thing < 0 || thing >= THINGS || !isKind(kind)) {
            return NONE;
        }
        return thing * KINDS + kind;
    }

    private Teller tellerAt(int teller) {
        return teller >= 0 && teller < tellers.size() ? tellers.get(teller) : null;
    }

    private ShipSet setAt(int set) {
        return set >= 0 && set < sets.size() ? sets.get(set) : null;
    }

    private void findCurrent(Holding held, int cell, int day) {
        current.clear();
        if (cell < 0 || cell >= CELLS) {
            return;
        }
        for (Telling telling = newest[cell]; telling != null; telling = telling.earlier) {
            if (telling.on <= day && held.has(telling)) {
                current.offer(telling);
            }
        }
    }

    /** THE VALUE; it leaves in the row `current` the tellings that it was found by. */
    private long valueOn(Holding held, int cell, int day) {
        findCurrent(held, cell, day);
        long common = current.commonValue();
        return common != NO_VALUE ? common : settledValue(held, cell);
    }

    private long settledValue(Holding held, int cell) {
        for (int i = settlings.size() - 1; i >= 0; i--) {
            Settling settling = settlings.get(i);
            if (held.hasSettling(i) && settling.isMadeFor(cell, current)) {
                return current.valueBy(settling.teller);
            }
        }
        return NO_VALUE;
    }

    private boolean isInConflict(Holding held, int cell) {
        long value = valueOn(held, cell, LAST_DAY);
        return value == NO_VALUE && current.count() > 0;
    }

    private int countConflicts(Holding held) {
        int found = 0;
        for (int cell = 0; cell < CELLS; cell++) {
            if (isInConflict(held, cell)) {
                found++;
            }
        }
        return found;
    }

    private int cellInConflict(Holding held, int k) {
        int found = 0;
        for (int cell = 0; cell < CELLS; cell++) {
            if (isInConflict(held, cell)) {
                if (found == k) {
                    return cell;
                }
                found++;
            }
        }
        return NONE;
    }

    private static final class Telling {
        private final int teller;
        private final int order;
        private final int number;
        private final int cell;
        private final long value;
        private final int on;
        private final Telling earlier;

        /** order: how many its teller told before; earlier: the telling before it, of any teller, of the same cell. */
        Telling(int teller, int order, int number, int cell, long value, int on, Telling earlier) {
            this.teller = teller;
            this.order = order;
            this.number = number;
            this.cell = cell;
            this.value = value;
            this.on = on;
            this.earlier = earlier;
        }

        boolean says(int otherCell, long otherValue, int otherDay) {
            return cell == otherCell && value == otherValue && on == otherDay;
        }
    }

    private static final class Teller {
        // Rising by number, not as they were told: numbers are searched for, and lost ones lie between them.
        private final ArrayList<Telling> told = new ArrayList<>();
        private final Blocks blocks = new Blocks();
        private final Clock clock = new Clock();
        private boolean closed = false;

        /** Where in `told` the first telling stands whose number is not below this one; its size when there is none. */
        private int placeOf(int wanted) {
            int low = 0;
            int high = told.size();
            while (low < high) {
                int middle = (low + high) >>> 1;
                if (told.get(middle).number < wanted) {
                    low = middle + 1;
                } else {
                    high = middle;
                }
            }
            return low;
        }

        Telling toldWith(int wanted) {
            int place = placeOf(wanted);
            if (place >= told.size()) {
                return null;
            }
            Telling found = told.get(place);
            return found.number == wanted ? found : null;
        }

        void keep(Telling telling) {
            told.add(placeOf(telling.number), telling);
        }

        int giveNumber() {
            for (int i = 0; i < blocks.count; i++) {
                for (int n = blocks.next[i]; n <= blocks.to[i]; n++) {
                    if (toldWith(n) == null) {
                        blocks.next[i] = n + 1;
                        return n;
                    }
                }
            }
            return NONE;
        }

        int endOfLostSpan(int k, int end) {
            int greatest = told.isEmpty() ? 0 : told.get(told.size() - 1).number;
            int found = 0;
            for (int n = 1; n < greatest; n++) {
                int last = lastLostFrom(n);
                if (last >= n) {
                    if (found == k) {
                        return end == 0 ? n : last;
                    }
                    found++;
                }
                // On to the end of the span or block that n is in, so that long ones cost one step.
                n = Math.max(n, Math.max(last, blocks.lastAround(n)));
            }
            return NONE;
        }

        /** The last number of the lost span that begins with n; n - 1 when n is not lost. */
        private int lastLostFrom(int n) {
            int place = placeOf(n);
            int behind = place < told.size() ? told.get(place).number : n;
            return Math.min(behind, blocks.firstFrom(n)) - 1;
        }
    }

    /** The BLOCKS of one teller, rising. */
    private static final class Blocks {
        private final int[] from = new int[BLOCKS];
        private final int[] to = new int[BLOCKS];
        // No number from next on was given: a block's numbers are given rising, and those left out were told with.
        private final int[] next = new int[BLOCKS];
        private int count = 0;

        /** False when there are six, or one of them has a number in common with it. */
        boolean add(int first, int last) {
            if (count >= BLOCKS || firstFrom(first) <= last) {
                return false;
            }
            int place = count;
            while (place > 0 && from[place - 1] > first) {
                from[place] = from[place - 1];
                to[place] = to[place - 1];
                next[place] = next[place - 1];
                place--;
            }
            from[place] = first;
            to[place] = last;
            next[place] = first;
            count++;
            return true;
        }

        /** The least number that is in a block and not below n; one above all numbers when there is none. */
        int firstFrom(int n) {
            for (int i = 0; i < count; i++) {
                if (n <= to[i]) {
                    return Math.max(n, from[i]);
                }
            }
            return LAST_NUMBER + 1;
        }

        /** The last number of the block that n is in; n itself when it is in none. */
        int lastAround(int n) {
            for (int i = 0; i < count; i++) {
                if (from[i] <= n && n <= to[i]) {
                    return to[i];
                }
            }
            return n;
        }
    }

    /** A teller's clock with its MARKS. */
    private static final class Clock {
        private final long[] seconds = new long[MARKS];
        private final long[] reals = new long[MARKS];
        private int count = 0;

        /** False when there are six, or one of both is not above that of the mark before. */
        boolean add(long second, long real) {
            if (count >= MARKS) {
                return false;
            }
            if (count > 0 && (second <= seconds[count - 1] || real <= reals[count - 1])) {
                return false;
            }
            seconds[count] = second;
            reals[count] = real;
            count++;
            return true;
        }

        long trueSecond(long second, int part) {
            if (count < 2) {
                long ahead = count == 0 ? 0 : reals[0] - seconds[0];
                return part == 0 ? second + ahead : 1;
            }
            int i = lineFor(second);
            long below = seconds[i + 1] - seconds[i];
            // At most 2 * 10^18 either way, so that a long holds it.
            long above = reals[i] * below + (second - seconds[i]) * (reals[i + 1] - reals[i]);
            long divisor = greatestDivisor(above, below);
            return part == 0 ? above / divisor : below / divisor;
        }

        /** The first of the two marks whose line goes for a second; there are two marks at least. */
        private int lineFor(long second) {
            int i = 0;
            while (i < count - 2 && second > seconds[i + 1]) {
                i++;
            }
            return i;
        }

        /** Of both; never below 1, so that it can divide. */
        private static long greatestDivisor(long one, long two) {
            long a = Math.abs(one);
            long b = Math.abs(two);
            for (int step = 0; step < DIVISOR_STEPS && b != 0; step++) {
                long rest = a % b;
                a = b;
                b = rest;
            }
            return Math.max(a, 1);
        }
    }

    /** The CURRENT tellings of a thing and kind: by teller the number and the value. */
    private static final class Current {
        // 0 is no number: the teller has no current telling.
        private final int[] numbers = new int[TELLERS];
        private final long[] values = new long[TELLERS];

        void clear() {
            Arrays.fill(numbers, 0);
        }

        void offer(Telling telling) {
            if (telling.number > numbers[telling.teller]) {
                numbers[telling.teller] = telling.number;
                values[telling.teller] = telling.value;
            }
        }

        boolean has(int teller) {
            return teller >= 0 && teller < TELLERS && numbers[teller] != 0;
        }

        long valueBy(int teller) {
            return has(teller) ? values[teller] : NO_VALUE;
        }

        int count() {
            int found = 0;
            for (int teller = 0; teller < TELLERS; teller++) {
                if (has(teller)) {
                    found++;
                }
            }
            return found;
        }

        /** NO_VALUE when they differ, or there are none. */
        long commonValue() {
            long common = NO_VALUE;
            for (int teller = 0; teller < TELLERS; teller++) {
                if (has(teller)) {
                    if (common != NO_VALUE && common != values[teller]) {
                        return NO_VALUE;
                    }
                    common = values[teller];
                }
            }
            return common;
        }
    }

    private static final class Settling {
        private final int cell;
        private final int teller;
        private final int[] numbers;

        Settling(int cell, int teller, Current kept) {
            this.cell = cell;
            this.teller = teller;
            this.numbers = Arrays.copyOf(kept.numbers, TELLERS);
        }

        boolean isMadeFor(int otherCell, Current now) {
            if (cell != otherCell) {
                return false;
            }
            for (int i = 0; i < TELLERS; i++) {
                if (numbers[i] != now.numbers[i]) {
                    return false;
                }
            }
            return true;
        }
    }

    /**
     * What a set holds. All that comes into a set is what a teller told up to some time, so that a count by teller
     * says which of its tellings are held: always the first ones that it told.
     */
    private static final class Holding {
        private final int[] toldBy = new int[TELLERS];
        // A bit for each settling, the first made lowest.
        private long settlingBits = 0;

        boolean has(Telling telling) {
            return telling.order < toldBy[telling.teller];
        }

        boolean hasSettling(int i) {
            return (settlingBits >>> i & 1L) != 0;
        }

        void takeSettling(int i) {
            settlingBits |= 1L << i;
        }

        void takeAllOf(Holding other) {
            for (int i = 0; i < TELLERS; i++) {
                toldBy[i] = Math.max(toldBy[i], other.toldBy[i]);
            }
            settlingBits |= other.settlingBits;
        }

        void becomeLike(Holding other) {
            System.arraycopy(other.toldBy, 0, toldBy, 0, TELLERS);
            settlingBits = other.settlingBits;
        }

        boolean isSameAs(Holding other) {
            for (int i = 0; i < TELLERS; i++) {
                if (toldBy[i] != other.toldBy[i]) {
                    return false;
                }
            }
            return settlingBits == other.settlingBits;
        }
    }

    private static final class ShipSet {
        private final Holding now = new Holding();
        // What persons see while a batch is on.
        private final Holding shown = new Holding();
        private boolean inBatch = false;
    }
}
