/** The boundary cases of promises 7 (known), 8 (conflict) and 9 (settle), a method for each. */
public final class ValueBoundsTest {
    private static final int NONE = ShipSets.NONE;
    private static final long NO_VALUE = ShipSets.NO_VALUE;
    private static final int LAST_DAY = 100000;

    public static void main(String[] args) {
        onThatDayOrBefore();
        theGreatestNumber();
        theGreatestOfThoseInTheSet();
        valuesAtTheirBounds();
        noTellingNoValue();
        theSameValueOfAll();
        theSameValueBeforeSettlings();
        differentValues();
        knownOfNoSuchSet();
        knownOfNoSuchThingOrKind();
        knownOnDaysOutside();
        countsForJustThose();
        countsNotForFewer();
        countsNotForMore();
        countsOnAnyDayWithJustThose();
        countsWhenOthersAreNotCurrent();
        countsInItsSetsAlone();
        keepsTheLastDay();
        madeLast();
        madeLastOfThoseThatCount();
        conflictsFromFirstToLast();
        noConflict();
        noTellingNoConflict();
        conflictOfNoSuchSet();
        conflictOfOtherQuestions();
        conflictByThingsThenKinds();
        howManyAreCurrent();
        settleCounts();
        settleByOneAlone();
        settleInNoSuchSet();
        settleByOneWithoutATelling();
        settleByATellingOfTheLastDay();
        settleForty();
        Check.end("ValueBoundsTest");
    }

    private static void onThatDayOrBefore() {
        Check.sentence("Terms", "ON that day or before");
        ShipSets x = Check.withTellers(1);
        x.tell(0, 1, 0, 0, 10, 0);
        x.tell(0, 2, 0, 0, 11, 1);
        x.tell(0, 3, 0, 0, 12, 500);
        x.tell(0, 4, 0, 0, 13, LAST_DAY);
        x.tell(0, 5, 1, 1, 14, 1);
        x.set(0);
        Check.due("day 0", x.known(0, 0, 0, 0), 10);
        Check.due("day 1", x.known(0, 0, 0, 1), 11);
        Check.due("the day before", x.known(0, 0, 0, 499), 11);
        Check.due("the day itself", x.known(0, 0, 0, 500), 12);
        Check.due("the day after", x.known(0, 0, 0, 501), 12);
        Check.due("the day before the last", x.known(0, 0, 0, LAST_DAY - 1), 12);
        Check.due("the last day", x.known(0, 0, 0, LAST_DAY), 13);
        Check.due("nothing on day 0 yet", x.known(0, 1, 1, 0), NO_VALUE);
        Check.due("on day 1", x.known(0, 1, 1, 1), 14);
    }

    private static void theGreatestNumber() {
        Check.sentence("Terms", "that with the greatest number of those in the set that are of thing and kind");
        ShipSets x = Check.withTellers(1);
        x.tell(0, 9999, 0, 0, 1, 50);
        x.tell(0, 9998, 0, 0, 2, 60);
        x.tell(0, 1, 0, 0, 3, 40);
        x.tell(0, 500, 0, 1, 4, 0);
        x.tell(0, 501, 1, 0, 5, 0);
        x.set(0);
        Check.due("the only one on day 40", x.known(0, 0, 0, 40), 3);
        Check.due("the greatest on day 50", x.known(0, 0, 0, 50), 1);
        Check.due("told later and known later, but less", x.known(0, 0, 0, 60), 1);
        Check.due("another kind's is another", x.known(0, 0, 1, 60), 4);
        Check.due("another thing's is another", x.known(0, 1, 0, 60), 5);
    }

    private static void theGreatestOfThoseInTheSet() {
        Check.sentence("Terms", "of those in the set");
        ShipSets x = Check.withTellers(1);
        x.tell(0, 5, 0, 0, 1, 0);
        x.set(0);
        x.tell(0, 6, 0, 0, 2, 0);
        x.set(0);
        Check.due("the greater number is not in it", x.known(0, 0, 0, LAST_DAY), 1);
        Check.due("here it is", x.known(1, 0, 0, LAST_DAY), 2);
    }

    private static void valuesAtTheirBounds() {
        Check.sentence("Promise 7", "THE VALUE of a set, a thing and a kind on a day");
        ShipSets x = Check.withTellers(2);
        long[] values = {-1000000000L, -999999999L, -1, 0, 1, 999999999L, 1000000000L};
        for (int i = 0; i < values.length; i++) {
            x.tell(0, i + 1, 0, i, values[i], 0);
            x.tell(1, i + 1, 0, i, values[i], 0);
        }
        x.set(0);
        x.set(1);
        Check.due("no conflict", x.join(0, 1), 0);
        for (int i = 0; i < values.length; i++) {
            Check.due("value " + values[i], x.known(0, 0, i, LAST_DAY), values[i]);
        }
    }

    private static void noTellingNoValue() {
        Check.sentence("Promise 7", "NO_VALUE when there is none");
        ShipSets x = Check.withTellers(1);
        x.set(0);
        for (int thing = 0; thing < 16; thing++) {
            for (int kind = 0; kind < 8; kind++) {
                Check.due("an empty set", x.known(0, thing, kind, LAST_DAY), NO_VALUE);
            }
        }
    }

    private static void theSameValueOfAll() {
        Check.sentence("Terms", "that of all CURRENT tellings, if they have the same one");
        ShipSets x = eight(5, 5);
        Check.due("all eight tell the same", x.known(0, 0, 0, LAST_DAY), 5);
    }

    /** Set 0 holds a telling of each of eight tellers of thing 0, kind 0; the last one's value is another. */
    private static ShipSets eight(long value, long last) {
        ShipSets x = Check.withTellers(8);
        for (int teller = 0; teller < 8; teller++) {
            x.tell(teller, 1, 0, 0, teller == 7 ? last : value, teller);
            x.set(teller);
            x.join(0, teller);
        }
        return x;
    }

    private static void theSameValueBeforeSettlings() {
        Check.sentence("Terms", "that of all CURRENT tellings, if they have the same one; otherwise");
        ShipSets x = eight(5, 5);
        Check.due("settle what is not in conflict", x.settle(0, 0, 0, 3), 1);
        Check.due("the value stays", x.known(0, 0, 0, LAST_DAY), 5);
        Check.due("on days with fewer tellings too", x.known(0, 0, 0, 0), 5);
    }

    private static void differentValues() {
        Check.sentence("Terms", "otherwise there is none");
        ShipSets x = eight(5, 6);
        Check.due("the last of eight differs", x.known(0, 0, 0, LAST_DAY), NO_VALUE);
        Check.due("on its day", x.known(0, 0, 0, 7), NO_VALUE);
        Check.due("on the day before", x.known(0, 0, 0, 6), 5);
        ShipSets y = Check.withTellers(2);
        y.tell(0, 1, 0, 0, 0, 0);
        y.tell(1, 1, 0, 0, 1, 0);
        y.set(0);
        y.set(1);
        Check.due("0 and 1 differ", y.join(0, 1), 1);
        Check.due("there is none", y.known(0, 0, 0, LAST_DAY), NO_VALUE);
    }

    private static void knownOfNoSuchSet() {
        Check.sentence("Promise 7", "or no such set");
        ShipSets x = eight(5, 5);
        for (int set : Check.outside(0, 7)) {
            Check.due("set " + set, x.known(set, 0, 0, LAST_DAY), NO_VALUE);
        }
    }

    private static void knownOfNoSuchThingOrKind() {
        Check.sentence("Promise 7", "NO_VALUE when there is none");
        ShipSets x = Check.withTellers(1);
        for (int i = 0; i < 128; i++) {
            x.tell(0, i + 1, i / 8, i % 8, i, 0);
        }
        x.set(0);
        for (int thing : Check.outside(0, 15)) {
            Check.due("thing " + thing, x.known(0, thing, 0, LAST_DAY), NO_VALUE);
        }
        for (int kind : Check.outside(0, 7)) {
            Check.due("kind " + kind, x.known(0, 1, kind, LAST_DAY), NO_VALUE);
        }
        Check.due("thing 16, kind -1", x.known(0, 16, -1, LAST_DAY), NO_VALUE);
        Check.due("thing -1, kind 8", x.known(0, -1, 8, LAST_DAY), NO_VALUE);
    }

    /** The document refuses no day: its words ON that day or before go for each. */
    private static void knownOnDaysOutside() {
        Check.sentence("Terms", "ON that day or before");
        ShipSets x = Check.withTellers(1);
        x.tell(0, 1, 0, 0, 5, 0);
        x.tell(0, 2, 0, 0, 6, LAST_DAY);
        x.set(0);
        Check.due("before day 0", x.known(0, 0, 0, -1), NO_VALUE);
        Check.due("long before", x.known(0, 0, 0, Integer.MIN_VALUE), NO_VALUE);
        Check.due("behind the last", x.known(0, 0, 0, LAST_DAY + 1), 6);
        Check.due("far behind", x.known(0, 0, 0, Integer.MAX_VALUE), 6);
    }

    /** Tellers 0, 1 and 2 tell 5, 6 and 7 of thing 0, kind 0, on days 10, 20 and 30; sets 0, 1 and 2 are theirs. */
    private static ShipSets three() {
        ShipSets x = Check.withTellers(3);
        for (int teller = 0; teller < 3; teller++) {
            x.tell(teller, 1, 0, 0, 5 + teller, 10 * (teller + 1));
            x.set(teller);
        }
        return x;
    }

    private static void countsForJustThose() {
        Check.sentence("Terms", "just those tellings are CURRENT");
        ShipSets x = three();
        x.join(0, 1);
        Check.due("settle", x.settle(0, 0, 0, 1), 1);
        Check.due("it counts", x.known(0, 0, 0, LAST_DAY), 6);
        Check.due("from the day on that both are known", x.known(0, 0, 0, 20), 6);
    }

    private static void countsNotForFewer() {
        Check.sentence("Terms", "just those tellings are CURRENT");
        ShipSets x = three();
        x.join(0, 1);
        x.join(0, 2);
        Check.due("settle all three", x.settle(0, 0, 0, 2), 1);
        Check.due("all three", x.known(0, 0, 0, 30), 7);
        Check.due("two of them", x.known(0, 0, 0, 29), NO_VALUE);
        Check.due("one of them, by its value", x.known(0, 0, 0, 19), 5);
        Check.due("none of them", x.known(0, 0, 0, 9), NO_VALUE);
    }

    private static void countsNotForMore() {
        Check.sentence("Terms", "just those tellings are CURRENT");
        ShipSets x = three();
        x.join(0, 1);
        x.settle(0, 0, 0, 0);
        Check.due("a third telling", x.join(0, 2), 1);
        Check.due("two of three were settled", x.known(0, 0, 0, 30), NO_VALUE);
        Check.due("the day before there are two", x.known(0, 0, 0, 29), 5);
        x.tell(1, 2, 0, 0, 6, 20);
        x.set(1);
        Check.due("one is told anew with the same value", x.join(0, 3), 1);
        Check.due("it is another telling", x.known(0, 0, 0, 29), NO_VALUE);
    }

    private static void countsOnAnyDayWithJustThose() {
        Check.sentence("Terms", "It COUNTS for a set and a day when it is in the set and just those tellings are CURRENT");
        ShipSets x = three();
        x.join(0, 1);
        x.settle(0, 0, 0, 1);
        // A greater number with an earlier day was told after the settling: then the others are never current.
        x.tell(0, 2, 0, 0, 8, 15);
        x.set(0);
        Check.due("another telling is current", x.join(0, 3), 1);
        Check.due("on day 20 too", x.known(0, 0, 0, 20), NO_VALUE);
    }

    private static void countsWhenOthersAreNotCurrent() {
        Check.sentence("Terms", "just those tellings are CURRENT");
        ShipSets x = Check.withTellers(2);
        x.tell(0, 5, 0, 0, 5, 10);
        x.tell(1, 5, 0, 0, 6, 10);
        x.set(0);
        x.set(1);
        x.join(0, 1);
        x.settle(0, 0, 0, 1);
        x.tell(0, 4, 0, 0, 7, 20);
        x.tell(0, 6, 1, 0, 7, 0);
        x.tell(0, 7, 0, 1, 7, 0);
        x.set(0);
        Check.due("a lesser number, another thing, another kind", x.join(0, 2), 0);
        Check.due("it counts still", x.known(0, 0, 0, LAST_DAY), 6);
        Check.due("and on the first day", x.known(0, 0, 0, 10), 6);
    }

    private static void countsInItsSetsAlone() {
        Check.sentence("Terms", "when it is in the set");
        ShipSets x = three();
        x.join(0, 1);
        x.join(1, 0);
        x.settle(0, 0, 0, 0);
        Check.due("in its set", x.known(0, 0, 0, LAST_DAY), 5);
        Check.due("in another set with the same tellings", x.known(1, 0, 0, LAST_DAY), NO_VALUE);
        Check.due("it is joined", x.join(1, 0), 0);
        Check.due("in the other set too", x.known(1, 0, 0, LAST_DAY), 5);
    }

    private static void keepsTheLastDay() {
        Check.sentence("Terms", "keeps what was CURRENT in its set on day 100000 when it was made");
        ShipSets x = Check.withTellers(2);
        x.tell(0, 1, 0, 0, 5, 0);
        x.tell(0, 2, 0, 0, 6, LAST_DAY);
        x.tell(1, 1, 0, 0, 7, 0);
        x.set(0);
        x.set(1);
        x.join(0, 1);
        Check.due("settle", x.settle(0, 0, 0, 0), 1);
        Check.due("on the last day", x.known(0, 0, 0, LAST_DAY), 6);
        Check.due("on the day before others are current", x.known(0, 0, 0, LAST_DAY - 1), NO_VALUE);
    }

    private static void madeLast() {
        Check.sentence("Terms", "of the SETTLINGS that COUNT the one that was made last");
        ShipSets x = three();
        x.join(0, 1);
        x.join(1, 0);
        Check.due("the first", x.settle(0, 0, 0, 0), 1);
        Check.due("the second, in the other set", x.settle(1, 0, 0, 1), 2);
        x.join(1, 0);
        Check.due("made first, though it came last", x.known(1, 0, 0, LAST_DAY), 6);
        x.join(0, 1);
        Check.due("made last", x.known(0, 0, 0, LAST_DAY), 6);
        Check.due("a third one", x.settle(0, 0, 0, 0), 3);
        Check.due("it goes before both", x.known(0, 0, 0, LAST_DAY), 5);
    }

    private static void madeLastOfThoseThatCount() {
        Check.sentence("Terms", "of the SETTLINGS that COUNT the one that was made last");
        ShipSets x = three();
        x.join(0, 1);
        x.settle(0, 0, 0, 1);
        x.join(0, 2);
        x.settle(0, 0, 0, 2);
        Check.due("the last one on the last day", x.known(0, 0, 0, LAST_DAY), 7);
        Check.due("the first one on a day with two", x.known(0, 0, 0, 29), 6);
    }

    /** A hundred pairs, with values 5 and 6, at the things and kinds from the 28th on. */
    private static ShipSets hundred() {
        ShipSets x = Check.withTellers(2);
        for (int i = 99; i >= 0; i--) {
            x.tell(0, i + 1, (i + 28) / 8, (i + 28) % 8, 5, 0);
            x.tell(1, i + 1, (i + 28) / 8, (i + 28) % 8, 6, 0);
        }
        x.set(0);
        x.set(1);
        Check.due("a hundred conflicts", x.join(0, 1), 100);
        return x;
    }

    private static void conflictsFromFirstToLast() {
        Check.sentence("Promise 8", "NONE when there is none such");
        ShipSets x = hundred();
        for (int k = 0; k < 100; k++) {
            Check.due("thing of conflict " + k, x.conflict(0, k, 0), (k + 28) / 8);
            Check.due("kind of conflict " + k, x.conflict(0, k, 1), (k + 28) % 8);
        }
        for (int k : Check.outside(0, 99)) {
            for (int what = 0; what < 3; what++) {
                Check.due("conflict(0, " + k + ", " + what + ")", x.conflict(0, k, what), NONE);
            }
        }
    }

    private static void noConflict() {
        Check.sentence("Promise 8", "NONE when there is none such");
        ShipSets x = hundred();
        Check.due("a set of one teller", x.conflict(1, 0, 0), NONE);
        ShipSets y = three();
        y.join(0, 1);
        Check.due("one", y.conflict(0, 0, 2), 2);
        y.settle(0, 0, 0, 0);
        Check.due("it is settled", y.conflict(0, 0, 2), NONE);
        y.join(0, 2);
        Check.due("it is open again", y.conflict(0, 0, 2), 3);
    }

    private static void noTellingNoConflict() {
        Check.sentence("Terms", "if on day 100000 there are CURRENT tellings and no VALUE");
        ShipSets x = Check.withTellers(1);
        x.set(0);
        Check.due("an empty set", x.join(0, 0), 0);
        for (int what = 0; what < 3; what++) {
            Check.due("no conflict", x.conflict(0, 0, what), NONE);
        }
    }

    private static void conflictOfNoSuchSet() {
        Check.sentence("Promise 8", "NONE when there is none such");
        ShipSets x = hundred();
        for (int set : Check.outside(0, 1)) {
            for (int what = 0; what < 3; what++) {
                Check.due("conflict(" + set + ", 0, " + what + ")", x.conflict(set, 0, what), NONE);
            }
        }
    }

    private static void conflictOfOtherQuestions() {
        Check.sentence("Promise 8", "or for others");
        ShipSets x = hundred();
        for (int what : Check.outside(0, 2)) {
            Check.due("conflict(0, 0, " + what + ")", x.conflict(0, 0, what), NONE);
            Check.due("conflict(0, 99, " + what + ")", x.conflict(0, 99, what), NONE);
        }
    }

    private static void conflictByThingsThenKinds() {
        Check.sentence("Promise 8", "by things, then kinds");
        ShipSets x = Check.withTellers(2);
        int[][] told = {{15, 7}, {1, 0}, {0, 7}, {15, 0}, {0, 0}, {1, 7}};
        int[][] due = {{0, 0}, {0, 7}, {1, 0}, {1, 7}, {15, 0}, {15, 7}};
        for (int i = 0; i < told.length; i++) {
            x.tell(0, i + 1, told[i][0], told[i][1], 5, 0);
            x.tell(1, i + 1, told[i][0], told[i][1], 6, 0);
        }
        x.set(0);
        x.set(1);
        x.join(0, 1);
        for (int k = 0; k < due.length; k++) {
            Check.due("thing of conflict " + k, x.conflict(0, k, 0), due[k][0]);
            Check.due("kind of conflict " + k, x.conflict(0, k, 1), due[k][1]);
        }
    }

    private static void howManyAreCurrent() {
        Check.sentence("Promise 8", "2 how many tellings are CURRENT");
        Check.due("eight", eight(5, 6).conflict(0, 0, 2), 8);
        ShipSets x = three();
        x.tell(0, 2, 0, 0, 9, 0);
        x.set(0);
        x.join(3, 1);
        Check.due("one of each teller", x.conflict(3, 0, 2), 2);
        x.join(3, 2);
        Check.due("and of a third", x.conflict(3, 0, 2), 3);
    }

    private static void settleCounts() {
        Check.sentence("Promise 9", "how many were made");
        ShipSets x = three();
        Check.due("in set 0", x.settle(0, 0, 0, 0), 1);
        Check.due("in set 1", x.settle(1, 0, 0, 1), 2);
        Check.due("in set 0 the same again", x.settle(0, 0, 0, 0), 3);
        Check.due("refused", x.settle(0, 0, 0, 1), NONE);
        Check.due("in set 2", x.settle(2, 0, 0, 2), 4);
    }

    private static void settleByOneAlone() {
        Check.sentence("Promise 9", "A SETTLING of a thing and kind by a teller's telling");
        ShipSets x = three();
        Check.due("by the only telling", x.settle(0, 0, 0, 0), 1);
        Check.due("the value is its own", x.known(0, 0, 0, LAST_DAY), 5);
        Check.due("it settles no conflict to come", x.join(0, 1), 1);
    }

    private static void settleInNoSuchSet() {
        Check.sentence("Promise 9", "NONE when there is no such set");
        ShipSets x = three();
        for (int set : Check.outside(0, 2)) {
            Check.due("settle(" + set + ", 0, 0, 0)", x.settle(set, 0, 0, 0), NONE);
        }
        Check.due("none was made", x.settle(0, 0, 0, 0), 1);
    }

    private static void settleByOneWithoutATelling() {
        Check.sentence("Promise 9", "the teller has no CURRENT telling of these on day 100000 in it");
        ShipSets x = three();
        x.tell(2, 2, 15, 7, 9, 0);
        x.teller();
        x.set(2);
        Check.due("it told, but not in this set", x.settle(0, 0, 0, 1), NONE);
        Check.due("it told later than the set was made", x.settle(2, 15, 7, 2), NONE);
        Check.due("another told", x.settle(3, 15, 7, 0), NONE);
        Check.due("it told nothing", x.settle(3, 15, 7, 3), NONE);
        Check.due("another kind", x.settle(0, 0, 1, 0), NONE);
        Check.due("another thing", x.settle(0, 1, 0, 0), NONE);
        for (int teller : Check.outside(0, 3)) {
            Check.due("teller " + teller, x.settle(0, 0, 0, teller), NONE);
        }
        for (int thing : Check.outside(0, 15)) {
            Check.due("thing " + thing, x.settle(0, thing, 0, 0), NONE);
        }
        for (int kind : Check.outside(0, 7)) {
            Check.due("kind " + kind, x.settle(0, 0, kind, 0), NONE);
        }
        Check.due("thing 16, kind -1", x.settle(3, 16, -1, 2), NONE);
        Check.due("thing -1, kind 8", x.settle(0, -1, 8, 0), NONE);
        Check.due("none was made", x.settle(3, 15, 7, 2), 1);
    }

    private static void settleByATellingOfTheLastDay() {
        Check.sentence("Promise 9", "CURRENT telling of these on day 100000");
        ShipSets x = Check.withTellers(2);
        x.tell(0, 1, 0, 0, 5, LAST_DAY);
        x.tell(1, 1, 0, 0, 6, 0);
        x.set(0);
        x.set(1);
        x.join(0, 1);
        Check.due("settle by the telling of the last day", x.settle(0, 0, 0, 0), 1);
        Check.due("settled", x.known(0, 0, 0, LAST_DAY), 5);
        Check.due("the day before there is one", x.known(0, 0, 0, LAST_DAY - 1), 6);
    }

    private static void settleForty() {
        Check.sentence("Promise 9", "or 40 were made");
        ShipSets x = three();
        x.join(0, 1);
        for (int made = 1; made <= 39; made++) {
            Check.due("settling " + made, x.settle(made % 2, 0, 0, made % 2), made);
        }
        Check.due("the 40th", x.settle(0, 0, 0, 1), 40);
        Check.due("it counts", x.known(0, 0, 0, LAST_DAY), 6);
        Check.due("the 41st", x.settle(0, 0, 0, 0), NONE);
        Check.due("in another set", x.settle(2, 0, 0, 2), NONE);
        Check.due("the 40th counts still", x.known(0, 0, 0, LAST_DAY), 6);
    }
}
