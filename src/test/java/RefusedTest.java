import java.util.ArrayList;
import java.util.List;

/**
 * "What is refused changes nothing": two objects are made by the same calls, one of them then gets a call that is
 * refused, and from then on both answer every call alike. An object is good for 512 calls, so each group of later
 * calls has two objects of its own.
 */
public final class RefusedTest {
    private static final long NONE = ShipSets.NONE;
    private static final long NO_VALUE = ShipSets.NO_VALUE;
    private static final long FALSE = 0;
    private static final int LAST_DAY = 100000;
    private static final long GREATEST = 1000000000L;
    private static final int[] THINGS = {0, 1, 15};
    private static final int GROUP = 120;
    private static final List<List<Call>> LATER = new ArrayList<>();

    private interface Use {
        long on(ShipSets x);
    }

    private record Call(String text, Use use) {
    }

    private interface State {
        ShipSets make();
    }

    public static void main(String[] args) {
        addAsking();
        addChanging();
        addNumbersAndMarks();
        refusedTellings();
        refusedTellingsByNumber();
        refusedSets();
        refusedSettlings();
        refusedBatches();
        refusedRights();
        refusedBlocks();
        refusedNumbers();
        refusedMarks();
        refusedWhenFull();
        refusedQuestions();
        askedQuestions();
        Check.end("RefusedTest");
    }

    private static long bit(boolean b) {
        return b ? 1 : 0;
    }

    /** Some of all that an object can hold, and nothing full: teller 2 is closed, set 1 is in a batch. */
    private static ShipSets some() {
        ShipSets x = new ShipSets();
        x.teller();
        x.teller();
        x.teller();
        x.set(2);
        for (int kind = 0; kind < 8; kind++) {
            x.tell(0, 2 * kind + 2, 0, kind, 100 + kind, kind);
            x.tell(1, 9 - kind, 0, kind, 100 + kind % 2, 10);
        }
        for (int teller = 0; teller < 3; teller++) {
            x.tell(teller, 40, 15, 7, 200 + teller, teller);
            x.set(teller);
        }
        x.close(2);
        x.join(1, 2);
        x.join(2, 1);
        x.settle(1, 0, 2, 1);
        x.settle(1, 15, 7, 0);
        x.batch(1);
        x.join(1, 3);
        x.settle(1, 15, 7, 2);
        for (int kind = 0; kind < 8; kind++) {
            x.right(4, kind, true);
        }
        x.right(0, 0, true);
        x.right(9, 7, true);
        x.block(0, 20, 22);
        x.block(0, 30, 30);
        x.block(1, 9, 11);
        x.number(0);
        x.mark(0, 10, 100);
        x.mark(0, 20, 130);
        x.mark(1, 5, 7);
        return x;
    }

    /** All that there can be of tellers, tellings, sets and settlings, and of teller 0's blocks and marks. */
    private static ShipSets full() {
        ShipSets x = Check.withTellers(8);
        for (int i = 0; i < 200; i++) {
            int j = i / 8;
            Check.due("telling", x.tell(i % 8, 2 * j + 2, THINGS[j % 3], j / 3 % 8, i % 3, i % 20), 1);
        }
        for (int set = 0; set < 12; set++) {
            Check.due("set", x.set(set % 8), set);
            x.join(0, set);
        }
        for (int made = 1; made <= 38; made++) {
            Check.due("settling", x.settle(made % 8, 0, 0, made % 8), made);
        }
        x.batch(1);
        x.join(1, 0);
        Check.due("settling", x.settle(1, 15, 7, 1), 39);
        Check.due("settling", x.settle(0, 15, 7, 2), 40);
        for (int i = 1; i <= 6; i++) {
            Check.due("block", x.block(0, 100 * i, 100 * i + 1), true);
            Check.due("mark", x.mark(0, 10 * i, 10 * i + i * i), true);
        }
        x.number(0);
        x.right(4, 0, true);
        x.close(7);
        return x;
    }

    private static void add(List<Call> calls, String text, Use use) {
        calls.add(new Call(text, use));
    }

    /** Questions may share objects, as long as these do not grow old. */
    private static void addInGroups(List<Call> calls) {
        for (int i = 0; i < calls.size(); i += GROUP) {
            LATER.add(calls.subList(i, Math.min(i + GROUP, calls.size())));
        }
    }

    private static void addAsking() {
        List<Call> calls = new ArrayList<>();
        for (int s = 0; s < 12; s++) {
            int set = s;
            for (int i = 0; i < 72; i++) {
                int thing = THINGS[i / 24];
                int kind = i / 3 % 8;
                int day = new int[] {0, 10, LAST_DAY}[i % 3];
                add(calls, "known(" + set + ", " + thing + ", " + kind + ", " + day + ")",
                        x -> x.known(set, thing, kind, day));
            }
            for (int i = 0; i < 30; i++) {
                int k = i / 3;
                int what = i % 3;
                add(calls, "conflict(" + set + ", " + k + ", " + what + ")", x -> x.conflict(set, k, what));
            }
            for (int i = 0; i < 12; i++) {
                int other = i;
                add(calls, "equal(" + set + ", " + other + ")", x -> bit(x.equal(set, other)));
            }
        }
        for (int i = 0; i < 320; i++) {
            int person = i / 32;
            int set = i / 16 % 2;
            int thing = i / 8 % 2 * 15;
            int kind = i % 8;
            add(calls, "seen(" + person + ", " + set + ", " + thing + ", " + kind + ")",
                    x -> x.seen(person, set, thing, kind));
        }
        for (int i = 0; i < 96; i++) {
            int teller = i / 12;
            int k = i / 2 % 6;
            int end = i % 2;
            add(calls, "lost(" + teller + ", " + k + ", " + end + ")", x -> x.lost(teller, k, end));
            long second = new long[] {0, 7, 15, 25, 1001, GREATEST}[k];
            add(calls, "corrected(" + teller + ", " + second + ", " + end + ")",
                    x -> x.corrected(teller, second, end));
        }
        addInGroups(calls);
    }

    private static void addChanging() {
        List<Call> tellers = new ArrayList<>();
        for (int i = 0; i < 9; i++) {
            add(tellers, "teller()", ShipSets::teller);
        }
        LATER.add(tellers);
        int[] numbers = {1, 2, 3, 5, 6, 9, 20, 40, 50, 51, 52, 9998, 9999};
        List<Call> tellings = new ArrayList<>();
        for (int i = 0; i < 8 * numbers.length; i++) {
            int teller = i % 8;
            int number = numbers[i / 8];
            add(tellings, "tell(" + teller + ", " + number + ", 0, 0, 7, 0)",
                    x -> x.tell(teller, number, 0, 0, 7, 0));
        }
        LATER.add(tellings);
        List<Call> sets = new ArrayList<>();
        for (int i = 0; i < 13; i++) {
            int teller = i % 8;
            add(sets, "set(" + teller + ")", x -> x.set(teller));
            for (int s = 0; s < 8; s++) {
                int set = s;
                int made = Math.min(i, 11);
                add(sets, "equal(" + set + ", " + made + ")", x -> bit(x.equal(set, made)));
            }
        }
        LATER.add(sets);
        List<Call> joins = new ArrayList<>();
        for (int i = 0; i < 36; i++) {
            int set = i / 6;
            int other = i % 6;
            add(joins, "join(" + set + ", " + other + ")", x -> x.join(set, other));
            add(joins, "conflict(" + set + ", 0, 2)", x -> x.conflict(set, 0, 2));
        }
        LATER.add(joins);
        List<Call> settlings = new ArrayList<>();
        for (int i = 0; i < 40; i++) {
            int set = i % 5;
            int kind = i / 5;
            add(settlings, "settle(" + set + ", 0, " + kind + ", 0)", x -> x.settle(set, 0, kind, 0));
            add(settlings, "settle(" + set + ", 15, 7, 1)", x -> x.settle(set, 15, 7, 1));
            add(settlings, "known(" + set + ", 15, 7, 100000)", x -> x.known(set, 15, 7, LAST_DAY));
        }
        LATER.add(settlings);
        LATER.add(settlingsToCome());
        List<Call> batches = new ArrayList<>();
        for (int i = 0; i < 60; i++) {
            int set = i / 5;
            boolean begins = i % 5 == 0 || i % 5 == 4;
            add(batches, (begins ? "batch(" : "endBatch(") + set + ")",
                    x -> bit(begins ? x.batch(set) : x.endBatch(set)));
            add(batches, "seen(4, " + set + ", 15, 7)", x -> x.seen(4, set, 15, 7));
        }
        LATER.add(batches);
    }

    /** A set could be left with a place for a settling that is made later in another one: set 4 is empty as set 0 is. */
    private static List<Call> settlingsToCome() {
        List<Call> calls = new ArrayList<>();
        add(calls, "teller()", ShipSets::teller);
        add(calls, "set(3)", x -> x.set(3));
        for (int made = 0; made < 3; made++) {
            int teller = made % 2;
            add(calls, "settle(1, 15, 7, " + teller + ")", x -> x.settle(1, 15, 7, teller));
            for (int i = 0; i < 25; i++) {
                int set = i / 5;
                int other = i % 5;
                add(calls, "equal(" + set + ", " + other + ")", x -> bit(x.equal(set, other)));
            }
            for (int i = 0; i < 5; i++) {
                int set = i;
                add(calls, "known(" + set + ", 15, 7, 100000)", x -> x.known(set, 15, 7, LAST_DAY));
            }
        }
        return calls;
    }

    private static void addNumbersAndMarks() {
        List<Call> given = new ArrayList<>();
        List<Call> blocks = new ArrayList<>();
        List<Call> closed = new ArrayList<>();
        List<Call> marks = new ArrayList<>();
        for (int i = 0; i < 64; i++) {
            int teller = i / 8;
            add(given, "number(" + teller + ")", x -> x.number(teller));
            int from = new int[] {1, 8, 12, 19, 23, 29, 31, 9999}[i % 8];
            add(blocks, "block(" + teller + ", " + from + ", " + from + ")", x -> bit(x.block(teller, from, from)));
            add(closed, "close(" + teller + ")", x -> bit(x.close(teller)));
            int second = new int[] {0, 5, 6, 11, 21, 22, 61, 62}[i % 8];
            int real = new int[] {1, 8, 101, 120, 131, 132, 133, 134}[i % 8];
            add(marks, "mark(" + teller + ", " + second + ", " + real + ")", x -> bit(x.mark(teller, second, real)));
        }
        LATER.add(given);
        LATER.add(blocks);
        LATER.add(closed);
        LATER.add(marks);
    }

    private static void refused(State state, String text, long answer, Use use) {
        Check.sentence("Terms", "What is refused changes nothing");
        Check.due(text, use.on(state.make()), answer);
        changesNothing(state, text, use);
    }

    private static void changesNothing(State state, String text, Use use) {
        Check.sentence("Terms", "What is refused changes nothing. After " + text);
        for (List<Call> calls : LATER) {
            // Once and twice: a second refusal could undo what the first one did.
            for (int times = 1; times <= 2; times++) {
                ShipSets with = state.make();
                ShipSets without = state.make();
                for (int i = 0; i < times; i++) {
                    use.on(with);
                }
                for (Call call : calls) {
                    Check.due(call.text, call.use.on(with), call.use.on(without));
                }
            }
        }
    }

    private static void refusedTellings() {
        State s = RefusedTest::some;
        refused(s, "tell by teller 3", NONE, x -> x.tell(3, 50, 0, 0, 7, 0));
        refused(s, "tell by teller -1", NONE, x -> x.tell(-1, 50, 0, 0, 7, 0));
        refused(s, "tell with number 0", NONE, x -> x.tell(0, 0, 0, 0, 7, 0));
        refused(s, "tell with number 10000", NONE, x -> x.tell(0, 10000, 0, 0, 7, 0));
        refused(s, "tell of thing -1", NONE, x -> x.tell(0, 50, -1, 0, 7, 0));
        refused(s, "tell of thing 16", NONE, x -> x.tell(0, 50, 16, 0, 7, 0));
        refused(s, "tell of kind -1", NONE, x -> x.tell(0, 50, 1, -1, 7, 0));
        refused(s, "tell of kind 8", NONE, x -> x.tell(0, 50, 0, 8, 7, 0));
        refused(s, "tell a value too small", NONE, x -> x.tell(0, 50, 0, 0, -GREATEST - 1, 0));
        refused(s, "tell a value too great", NONE, x -> x.tell(0, 50, 0, 0, GREATEST + 1, 0));
        refused(s, "tell on day -1", NONE, x -> x.tell(0, 50, 0, 0, 7, -1));
        refused(s, "tell on day 100001", NONE, x -> x.tell(0, 50, 0, 0, 7, LAST_DAY + 1));
    }

    private static void refusedTellingsByNumber() {
        State s = RefusedTest::some;
        refused(s, "tell another thing", NONE, x -> x.tell(0, 2, 1, 0, 100, 0));
        refused(s, "tell another kind", NONE, x -> x.tell(0, 2, 0, 1, 100, 0));
        refused(s, "tell another value", NONE, x -> x.tell(0, 2, 0, 0, 101, 0));
        refused(s, "tell another day", NONE, x -> x.tell(0, 2, 0, 0, 100, 1));
        refused(s, "tell when closed", NONE, x -> x.tell(2, 50, 0, 0, 7, 0));
        refused(s, "tell another one when closed", NONE, x -> x.tell(2, 40, 0, 0, 7, 0));
        refused(s, "tell the same", 0, x -> x.tell(0, 2, 0, 0, 100, 0));
        refused(s, "tell the same when closed", 0, x -> x.tell(2, 40, 15, 7, 202, 2));
    }

    private static void refusedSets() {
        State s = RefusedTest::some;
        refused(s, "set(3)", NONE, x -> x.set(3));
        refused(s, "set(-1)", NONE, x -> x.set(-1));
        refused(s, "join(0, 4)", NONE, x -> x.join(0, 4));
        refused(s, "join(4, 0)", NONE, x -> x.join(4, 0));
        refused(s, "join(-1, 1)", NONE, x -> x.join(-1, 1));
        refused(s, "join(1, -1)", NONE, x -> x.join(1, -1));
        refused(s, "join(12, 12)", NONE, x -> x.join(12, 12));
    }

    private static void refusedSettlings() {
        State s = RefusedTest::some;
        refused(s, "settle in set 4", NONE, x -> x.settle(4, 15, 7, 0));
        refused(s, "settle in set -1", NONE, x -> x.settle(-1, 15, 7, 0));
        refused(s, "settle by a teller without a telling", NONE, x -> x.settle(2, 15, 7, 2));
        refused(s, "settle what nobody told of", NONE, x -> x.settle(1, 1, 0, 0));
        refused(s, "settle in an empty set", NONE, x -> x.settle(0, 15, 7, 0));
        refused(s, "settle by teller 3", NONE, x -> x.settle(1, 15, 7, 3));
        refused(s, "settle by teller -1", NONE, x -> x.settle(1, 15, 7, -1));
        refused(s, "settle by teller 8", NONE, x -> x.settle(1, 15, 7, 8));
        refused(s, "settle thing 16", NONE, x -> x.settle(1, 16, 7, 0));
        refused(s, "settle thing -1", NONE, x -> x.settle(1, -1, 7, 0));
        refused(s, "settle kind 8", NONE, x -> x.settle(1, 14, 8, 0));
        refused(s, "settle kind -1", NONE, x -> x.settle(1, 1, -1, 0));
    }

    private static void refusedBatches() {
        State s = RefusedTest::some;
        refused(s, "batch(4)", FALSE, x -> bit(x.batch(4)));
        refused(s, "batch(-1)", FALSE, x -> bit(x.batch(-1)));
        refused(s, "batch(1), begun before", FALSE, x -> bit(x.batch(1)));
        refused(s, "endBatch(4)", FALSE, x -> bit(x.endBatch(4)));
        refused(s, "endBatch(-1)", FALSE, x -> bit(x.endBatch(-1)));
        refused(s, "endBatch(0), not begun", FALSE, x -> bit(x.endBatch(0)));
    }

    private static void refusedRights() {
        State s = RefusedTest::some;
        refused(s, "right(10, 0, true)", FALSE, x -> bit(x.right(10, 0, true)));
        refused(s, "right(-1, 8, true)", FALSE, x -> bit(x.right(-1, 8, true)));
        refused(s, "right(0, 8, true)", FALSE, x -> bit(x.right(0, 8, true)));
        refused(s, "right(1, -1, true)", FALSE, x -> bit(x.right(1, -1, true)));
        refused(s, "right(3, 8, false)", FALSE, x -> bit(x.right(3, 8, false)));
        refused(s, "right(10, -1, false)", FALSE, x -> bit(x.right(10, -1, false)));
    }

    private static void refusedBlocks() {
        State s = RefusedTest::some;
        refused(s, "block(3, 1, 1)", FALSE, x -> bit(x.block(3, 1, 1)));
        refused(s, "block(-1, 1, 1)", FALSE, x -> bit(x.block(-1, 1, 1)));
        refused(s, "block(0, 0, 1)", FALSE, x -> bit(x.block(0, 0, 1)));
        refused(s, "block(0, 9999, 10000)", FALSE, x -> bit(x.block(0, 9999, 10000)));
        refused(s, "block(0, 19, 18)", FALSE, x -> bit(x.block(0, 19, 18)));
        refused(s, "block(0, 19, 20)", FALSE, x -> bit(x.block(0, 19, 20)));
        refused(s, "block(0, 22, 23)", FALSE, x -> bit(x.block(0, 22, 23)));
        refused(s, "block(0, 1, 9999)", FALSE, x -> bit(x.block(0, 1, 9999)));
        refused(s, "block(1, 10, 10)", FALSE, x -> bit(x.block(1, 10, 10)));
    }

    private static void refusedNumbers() {
        State s = RefusedTest::some;
        refused(s, "number(2), without blocks", NONE, x -> x.number(2));
        refused(s, "number(3)", NONE, x -> x.number(3));
        refused(s, "number(-1)", NONE, x -> x.number(-1));
        refused(RefusedTest::usedUp, "number(0), used up", NONE, x -> x.number(0));
        refused(s, "close(2), closed before", FALSE, x -> bit(x.close(2)));
        refused(s, "close(3)", FALSE, x -> bit(x.close(3)));
        refused(s, "close(-1)", FALSE, x -> bit(x.close(-1)));
    }

    private static ShipSets usedUp() {
        ShipSets x = some();
        for (int i = 0; i < 3; i++) {
            x.number(0);
        }
        return x;
    }

    private static void refusedMarks() {
        State s = RefusedTest::some;
        refused(s, "mark(3, 1, 1)", FALSE, x -> bit(x.mark(3, 1, 1)));
        refused(s, "mark(-1, 1, 1)", FALSE, x -> bit(x.mark(-1, 1, 1)));
        refused(s, "mark(2, -1, 1)", FALSE, x -> bit(x.mark(2, -1, 1)));
        refused(s, "mark(2, 1, -1)", FALSE, x -> bit(x.mark(2, 1, -1)));
        refused(s, "mark(2, 1000000001, 1)", FALSE, x -> bit(x.mark(2, GREATEST + 1, 1)));
        refused(s, "mark(2, 1, 1000000001)", FALSE, x -> bit(x.mark(2, 1, GREATEST + 1)));
        refused(s, "mark(0, 20, 131)", FALSE, x -> bit(x.mark(0, 20, 131)));
        refused(s, "mark(0, 21, 130)", FALSE, x -> bit(x.mark(0, 21, 130)));
        refused(s, "mark(0, 15, 115)", FALSE, x -> bit(x.mark(0, 15, 115)));
        refused(s, "mark(1, 4, 8)", FALSE, x -> bit(x.mark(1, 4, 8)));
    }

    private static void refusedWhenFull() {
        State s = RefusedTest::full;
        refused(s, "teller()", NONE, ShipSets::teller);
        refused(s, "tell the 201st", NONE, x -> x.tell(0, 51, 0, 0, 7, 0));
        refused(s, "tell the 201st, of a number between", NONE, x -> x.tell(6, 3, 0, 0, 7, 0));
        refused(s, "tell the same", 0, x -> x.tell(0, 2, 0, 0, 0, 0));
        refused(s, "set(0)", NONE, x -> x.set(0));
        refused(s, "settle the 41st", NONE, x -> x.settle(0, 0, 0, 0));
        refused(s, "settle the 41st in a batch", NONE, x -> x.settle(1, 15, 7, 0));
        refused(s, "block the 7th", FALSE, x -> bit(x.block(0, 1, 1)));
        refused(s, "block the 7th, behind all", FALSE, x -> bit(x.block(0, 9999, 9999)));
        refused(s, "mark the 7th", FALSE, x -> bit(x.mark(0, 1000, 1000)));
    }

    private static void refusedQuestions() {
        State s = RefusedTest::some;
        refused(s, "equal(0, 4)", FALSE, x -> bit(x.equal(0, 4)));
        refused(s, "equal(-1, 1)", FALSE, x -> bit(x.equal(-1, 1)));
        refused(s, "known(4, 0, 0, 100000)", NO_VALUE, x -> x.known(4, 0, 0, LAST_DAY));
        refused(s, "known(1, 16, 0, 100000)", NO_VALUE, x -> x.known(1, 16, 0, LAST_DAY));
        refused(s, "known(1, 0, 8, 100000)", NO_VALUE, x -> x.known(1, 0, 8, LAST_DAY));
        refused(s, "conflict(4, 0, 0)", NONE, x -> x.conflict(4, 0, 0));
        refused(s, "conflict(1, -1, 0)", NONE, x -> x.conflict(1, -1, 0));
        refused(s, "conflict(1, 128, 0)", NONE, x -> x.conflict(1, 128, 0));
        refused(s, "conflict(1, 0, 3)", NONE, x -> x.conflict(1, 0, 3));
        refused(s, "seen(10, 1, 0, 0)", NO_VALUE, x -> x.seen(10, 1, 0, 0));
        refused(s, "seen(4, 4, 0, 0)", NO_VALUE, x -> x.seen(4, 4, 0, 0));
        refused(s, "seen(4, 1, 16, 0)", NO_VALUE, x -> x.seen(4, 1, 16, 0));
        refused(s, "seen(4, 1, 0, 8)", NO_VALUE, x -> x.seen(4, 1, 0, 8));
        refused(s, "seen(0, 1, 0, 1), no right", NO_VALUE, x -> x.seen(0, 1, 0, 1));
        refused(s, "lost(3, 0, 0)", NONE, x -> x.lost(3, 0, 0));
        refused(s, "lost(0, -1, 0)", NONE, x -> x.lost(0, -1, 0));
        refused(s, "lost(0, 0, 2)", NONE, x -> x.lost(0, 0, 2));
        refused(s, "corrected(3, 5, 0)", NONE, x -> x.corrected(3, 5, 0));
        refused(s, "corrected(0, -1, 0)", NONE, x -> x.corrected(0, -1, 0));
        refused(s, "corrected(0, 5, 2)", NONE, x -> x.corrected(0, 5, 2));
    }

    /** No promise says that a question changes anything. */
    private static void askedQuestions() {
        for (State s : new State[] {RefusedTest::some, RefusedTest::full}) {
            changesNothing(s, "equal(0, 1)", x -> bit(x.equal(0, 1)));
            changesNothing(s, "known(1, 15, 7, 1)", x -> x.known(1, 15, 7, 1));
            changesNothing(s, "conflict(1, 0, 2)", x -> x.conflict(1, 0, 2));
            changesNothing(s, "seen(4, 1, 15, 7)", x -> x.seen(4, 1, 15, 7));
            changesNothing(s, "lost(0, 0, 1)", x -> x.lost(0, 0, 1));
            changesNothing(s, "corrected(0, 15, 0)", x -> x.corrected(0, 15, 0));
        }
    }
}
