import java.math.BigInteger;
import java.util.ArrayList;
import java.util.Arrays;
import java.util.HashMap;
import java.util.HashSet;
import java.util.List;
import java.util.Map;
import java.util.Set;
import java.util.TreeMap;
import java.util.TreeSet;

/** The document's words in their slowest form, with the Java library: what ModelTest holds ShipSets against. */
final class Model {
    private static final int NONE = -1;
    private static final long NO_VALUE = Long.MIN_VALUE;

    private record Telling(int teller, int number, int thing, int kind, long v, int on) {
    }

    private record Settling(int made, int thing, int kind, int teller, Set<Telling> kept) {
    }

    private record Held(Set<Telling> tellings, Set<Settling> settlings) {
        Held copy() {
            return new Held(new HashSet<>(tellings), new HashSet<>(settlings));
        }
    }

    private record Mark(long second, long real) {
    }

    private int tellers = 0;
    private int settled = 0;
    private final List<Telling> all = new ArrayList<>();
    private final List<Held> sets = new ArrayList<>();
    private final Map<Integer, Held> batches = new HashMap<>();
    private final Set<List<Integer>> rights = new HashSet<>();
    private final Set<Integer> closed = new HashSet<>();
    private final Map<Integer, List<int[]>> blocks = new HashMap<>();
    private final Map<Integer, Set<Integer>> given = new HashMap<>();
    private final Map<Integer, List<Mark>> marks = new HashMap<>();

    private static boolean within(long n, long least, long greatest) {
        return n >= least && n <= greatest;
    }

    private boolean isTeller(int teller) {
        return within(teller, 0, tellers - 1);
    }

    private boolean isSet(int set) {
        return within(set, 0, sets.size() - 1);
    }

    long teller() {
        return tellers == 8 ? NONE : tellers++;
    }

    long tell(int teller, int number, int thing, int kind, long v, int on) {
        Telling told = new Telling(teller, number, thing, kind, v, on);
        if (all.contains(told)) {
            return 0;
        }
        boolean fits = isTeller(teller) && within(number, 1, 9999) && within(thing, 0, 15) && within(kind, 0, 7)
                && within(v, -1000000000L, 1000000000L) && within(on, 0, 100000);
        if (!fits || toldNumbers(teller).contains(number) || closed.contains(teller) || all.size() == 200) {
            return NONE;
        }
        all.add(told);
        return 1;
    }

    private TreeSet<Integer> toldNumbers(int teller) {
        TreeSet<Integer> numbers = new TreeSet<>();
        for (Telling t : all) {
            if (t.teller == teller) {
                numbers.add(t.number);
            }
        }
        return numbers;
    }

    long set(int teller) {
        if (!isTeller(teller) || sets.size() == 12) {
            return NONE;
        }
        Held held = new Held(new HashSet<>(), new HashSet<>());
        for (Telling t : all) {
            if (t.teller == teller) {
                held.tellings.add(t);
            }
        }
        sets.add(held);
        return sets.size() - 1;
    }

    long join(int set, int other) {
        if (!isSet(set) || !isSet(other)) {
            return NONE;
        }
        sets.get(set).tellings.addAll(sets.get(other).copy().tellings);
        sets.get(set).settlings.addAll(sets.get(other).copy().settlings);
        return conflicts(set).size();
    }

    boolean equal(int set, int other) {
        return isSet(set) && isSet(other) && sets.get(set).equals(sets.get(other));
    }

    private static Map<Integer, Telling> current(Held held, int thing, int kind, int day) {
        Map<Integer, Telling> by = new TreeMap<>();
        for (Telling t : held.tellings) {
            if (t.thing == thing && t.kind == kind && t.on <= day) {
                Telling before = by.get(t.teller);
                if (before == null || before.number < t.number) {
                    by.put(t.teller, t);
                }
            }
        }
        return by;
    }

    private static long value(Held held, int thing, int kind, int day) {
        Map<Integer, Telling> now = current(held, thing, kind, day);
        Set<Long> values = new HashSet<>();
        for (Telling t : now.values()) {
            values.add(t.v);
        }
        if (values.size() == 1) {
            return values.iterator().next();
        }
        Settling last = null;
        for (Settling s : held.settlings) {
            boolean counts = s.thing == thing && s.kind == kind && s.kept.equals(new HashSet<>(now.values()));
            if (counts && (last == null || s.made > last.made)) {
                last = s;
            }
        }
        return last == null ? NO_VALUE : now.get(last.teller).v;
    }

    long known(int set, int thing, int kind, int day) {
        return isSet(set) ? value(sets.get(set), thing, kind, day) : NO_VALUE;
    }

    private List<int[]> conflicts(int set) {
        List<int[]> found = new ArrayList<>();
        for (int thing = 0; thing < 16; thing++) {
            for (int kind = 0; kind < 8; kind++) {
                int count = current(sets.get(set), thing, kind, 100000).size();
                if (count > 0 && value(sets.get(set), thing, kind, 100000) == NO_VALUE) {
                    found.add(new int[] {thing, kind, count});
                }
            }
        }
        return found;
    }

    long conflict(int set, int k, int what) {
        if (!isSet(set) || !within(what, 0, 2)) {
            return NONE;
        }
        List<int[]> found = conflicts(set);
        return within(k, 0, found.size() - 1) ? found.get(k)[what] : NONE;
    }

    long settle(int set, int thing, int kind, int teller) {
        if (!isSet(set) || settled == 40) {
            return NONE;
        }
        Map<Integer, Telling> now = current(sets.get(set), thing, kind, 100000);
        if (!now.containsKey(teller)) {
            return NONE;
        }
        settled++;
        sets.get(set).settlings.add(new Settling(settled, thing, kind, teller, new HashSet<>(now.values())));
        return settled;
    }

    boolean batch(int set) {
        if (!isSet(set) || batches.containsKey(set)) {
            return false;
        }
        batches.put(set, sets.get(set).copy());
        return true;
    }

    boolean endBatch(int set) {
        return batches.remove(set) != null;
    }

    boolean right(int person, int kind, boolean on) {
        if (!within(person, 0, 9) || !within(kind, 0, 7)) {
            return false;
        }
        if (on) {
            rights.add(List.of(person, kind));
        } else {
            rights.remove(List.of(person, kind));
        }
        return true;
    }

    long seen(int person, int set, int thing, int kind) {
        if (!isSet(set) || !rights.contains(List.of(person, kind))) {
            return NO_VALUE;
        }
        return value(batches.getOrDefault(set, sets.get(set)), thing, kind, 100000);
    }

    private List<int[]> blocksOf(int teller) {
        return blocks.computeIfAbsent(teller, t -> new ArrayList<>());
    }

    private TreeSet<Integer> blockNumbers(int teller) {
        TreeSet<Integer> numbers = new TreeSet<>();
        for (int[] span : blocksOf(teller)) {
            for (int n = span[0]; n <= span[1]; n++) {
                numbers.add(n);
            }
        }
        return numbers;
    }

    boolean block(int teller, int from, int to) {
        if (!within(from, 1, 9999) || !within(to, 1, 9999) || to < from || !isTeller(teller)
                || blocksOf(teller).size() == 6) {
            return false;
        }
        Integer met = blockNumbers(teller).ceiling(from);
        if (met != null && met <= to) {
            return false;
        }
        blocksOf(teller).add(new int[] {from, to});
        return true;
    }

    long number(int teller) {
        Set<Integer> gone = given.computeIfAbsent(teller, t -> new HashSet<>());
        Set<Integer> told = toldNumbers(teller);
        for (int n : blockNumbers(teller)) {
            if (!told.contains(n) && gone.add(n)) {
                return n;
            }
        }
        return NONE;
    }

    long lost(int teller, int k, int end) {
        TreeSet<Integer> told = toldNumbers(teller);
        if (told.isEmpty() || !within(end, 0, 1)) {
            return NONE;
        }
        Set<Integer> inBlocks = blockNumbers(teller);
        List<int[]> spans = new ArrayList<>();
        boolean open = false;
        for (int n = 1; n <= told.last(); n++) {
            boolean isLost = !told.contains(n) && !inBlocks.contains(n);
            if (isLost && !open) {
                spans.add(new int[] {n, n});
            } else if (isLost) {
                spans.get(spans.size() - 1)[1] = n;
            }
            open = isLost;
        }
        return within(k, 0, spans.size() - 1) ? spans.get(k)[end] : NONE;
    }

    boolean close(int teller) {
        return isTeller(teller) && closed.add(teller);
    }

    private List<Mark> marksOf(int teller) {
        return marks.computeIfAbsent(teller, t -> new ArrayList<>());
    }

    boolean mark(int teller, long second, long real) {
        if (!isTeller(teller) || !within(second, 0, 1000000000L) || !within(real, 0, 1000000000L)
                || marksOf(teller).size() == 6) {
            return false;
        }
        for (Mark m : marksOf(teller)) {
            if (second <= m.second || real <= m.real) {
                return false;
            }
        }
        return marksOf(teller).add(new Mark(second, real));
    }

    long corrected(int teller, long second, int part) {
        if (!isTeller(teller) || !within(second, 0, 1000000000L) || !within(part, 0, 1)) {
            return NONE;
        }
        List<Mark> of = marksOf(teller);
        BigInteger[] answer = {BigInteger.valueOf(second), BigInteger.ONE};
        if (of.size() == 1) {
            answer[0] = BigInteger.valueOf(of.get(0).real + second - of.get(0).second);
        } else if (of.size() > 1) {
            int behind = 1;
            for (int i = 1; i < of.size() - 1; i++) {
                if (of.get(i).second < second) {
                    behind = i + 1;
                }
            }
            answer = onLine(of.get(behind - 1), of.get(behind), second);
        }
        BigInteger divisor = answer[0].gcd(answer[1]);
        return answer[part].divide(divisor).longValueExact();
    }

    private static BigInteger[] onLine(Mark a, Mark b, long second) {
        BigInteger below = BigInteger.valueOf(b.second - a.second);
        BigInteger rise = BigInteger.valueOf(b.real - a.real).multiply(BigInteger.valueOf(second - a.second));
        return new BigInteger[] {BigInteger.valueOf(a.real).multiply(below).add(rise), below};
    }

    @Override
    public String toString() {
        return "tellers " + tellers + ", tellings " + all.size() + ", sets " + sets.size() + ", settlings " + settled
                + ", marks " + Arrays.toString(marks.values().toArray());
    }
}
