import java.util.Random;

/** Random runs of 512 calls, the same ones each time: ShipSets answers as the slow model does. */
public final class ModelTest {
    private static final int RUNS = 400;
    private static final int CALLS = 512;
    private static final int METHODS = 18;
    private static final int[] ODD = {-1, 0, 1, 7, 8, 9, 10, 12, 15, 16, 40, 200, 9999, 10000, 100000, 100001,
        1000000000, 1000000001, Integer.MAX_VALUE, Integer.MIN_VALUE};

    private final Random random;
    private final ShipSets x = new ShipSets();
    private final Model model = new Model();
    // How far apart the numbers of a run lie: in narrow runs doubles, conflicts and blocks that meet are common.
    private final int tellers;
    private final int things;
    private final int kinds;
    private final int numbers;
    private final int oddOneIn;
    private final int[] weights = new int[METHODS];
    private int weight = 0;
    // Never below the calls made so far: what an object answers behind the 512th is free.
    private int made = 0;

    private ModelTest(long seed) {
        random = new Random(seed);
        tellers = 1 + random.nextInt(8);
        things = 1 + random.nextInt(random.nextBoolean() ? 2 : 16);
        kinds = 1 + random.nextInt(random.nextBoolean() ? 2 : 8);
        numbers = new int[] {12, 60, 400, 9999}[random.nextInt(4)];
        oddOneIn = new int[] {10, 60, 1000000}[random.nextInt(3)];
        for (int i = 0; i < METHODS; i++) {
            weights[i] = 1 + random.nextInt(6);
            weight += weights[i];
        }
        int extra = 2 + random.nextInt(40);
        weights[1] += extra;
        weight += extra;
    }

    public static void main(String[] args) {
        for (int run = 0; run < RUNS; run++) {
            new ModelTest(run).play(run);
        }
        Check.end("ModelTest");
    }

    private void play(int run) {
        for (int i = 0; i < tellers; i++) {
            Check.due("teller()", x.teller(), model.teller());
            made++;
        }
        while (made < CALLS) {
            made++;
            String at = "run " + run + ", call " + made + ": ";
            int method = pickMethod();
            if (method < 9) {
                callOfTellings(method, at);
            } else {
                callOfTheRest(method, at);
            }
        }
    }

    private int pickMethod() {
        int left = random.nextInt(weight);
        int method = 0;
        while (left >= weights[method]) {
            left -= weights[method];
            method++;
        }
        return method;
    }

    private int odd(int ordinary) {
        return random.nextInt(oddOneIn) == 0 ? ODD[random.nextInt(ODD.length)] : ordinary;
    }

    private int aTeller() {
        return odd(random.nextInt(tellers));
    }

    private int aSet() {
        return odd(random.nextInt(random.nextBoolean() ? 3 : 12));
    }

    private int aThing() {
        return odd(random.nextInt(things));
    }

    private int aKind() {
        return odd(random.nextInt(kinds));
    }

    private int aNumber() {
        return odd(1 + random.nextInt(numbers));
    }

    private int aDay() {
        return odd(random.nextInt(4) == 0 ? random.nextInt(100001) : random.nextInt(30));
    }

    private long aSecond() {
        long ordinary = random.nextInt(3) == 0 ? random.nextInt(1000000001) : random.nextInt(400);
        return random.nextInt(oddOneIn) == 0 ? ODD[random.nextInt(ODD.length)] * (long) random.nextInt(7) : ordinary;
    }

    private void callOfTellings(int method, String at) {
        int teller = aTeller();
        int set = aSet();
        int other = aSet();
        int thing = aThing();
        int kind = aKind();
        int day = aDay();
        switch (method) {
            case 0 -> {
                // New tellers seldom: most runs should not end with all eight.
                if (random.nextInt(20) == 0) {
                    Check.due(at + "teller()", x.teller(), model.teller());
                }
            }
            case 1 -> {
                int number = aNumber();
                long v = random.nextInt(oddOneIn) == 0 ? 3L * odd(0) : random.nextInt(3) - 1;
                int times = made < CALLS && random.nextInt(9) == 0 ? 2 : 1;
                made += times - 1;
                for (int i = 0; i < times; i++) {
                    Check.due(at + "tell(" + teller + ", " + number + ", " + thing + ", " + kind + ", " + v + ", " + day
                            + ")", x.tell(teller, number, thing, kind, v, day),
                            model.tell(teller, number, thing, kind, v, day));
                }
            }
            case 2 -> {
                if (random.nextInt(4) == 0) {
                    Check.due(at + "set(" + teller + ")", x.set(teller), model.set(teller));
                }
            }
            case 3 -> Check.due(at + "join(" + set + ", " + other + ")", x.join(set, other), model.join(set, other));
            case 4 -> Check.due(at + "equal(" + set + ", " + other + ")", x.equal(set, other), model.equal(set, other));
            case 5 -> Check.due(at + "known(" + set + ", " + thing + ", " + kind + ", " + day + ")",
                    x.known(set, thing, kind, day), model.known(set, thing, kind, day));
            case 6 -> {
                int k = odd(random.nextInt(5));
                int what = odd(random.nextInt(3));
                Check.due(at + "conflict(" + set + ", " + k + ", " + what + ")",
                        x.conflict(set, k, what), model.conflict(set, k, what));
            }
            case 7 -> Check.due(at + "settle(" + set + ", " + thing + ", " + kind + ", " + teller + ")",
                    x.settle(set, thing, kind, teller), model.settle(set, thing, kind, teller));
            default -> Check.due(at + "batch(" + set + ")", x.batch(set), model.batch(set));
        }
    }

    private void callOfTheRest(int method, String at) {
        int teller = aTeller();
        int set = aSet();
        int kind = aKind();
        int person = odd(random.nextInt(3));
        long second = aSecond();
        switch (method) {
            case 9 -> Check.due(at + "endBatch(" + set + ")", x.endBatch(set), model.endBatch(set));
            case 10 -> {
                boolean on = random.nextInt(4) != 0;
                Check.due(at + "right(" + person + ", " + kind + ", " + on + ")",
                        x.right(person, kind, on), model.right(person, kind, on));
            }
            case 11 -> {
                int thing = aThing();
                Check.due(at + "seen(" + person + ", " + set + ", " + thing + ", " + kind + ")",
                        x.seen(person, set, thing, kind), model.seen(person, set, thing, kind));
            }
            case 12 -> {
                int from = aNumber();
                int to = odd(from + random.nextInt(Math.max(2, numbers / 10)) - 1);
                Check.due(at + "block(" + teller + ", " + from + ", " + to + ")",
                        x.block(teller, from, to), model.block(teller, from, to));
            }
            case 13 -> Check.due(at + "number(" + teller + ")", x.number(teller), model.number(teller));
            case 14 -> {
                int k = odd(random.nextInt(8));
                int end = odd(random.nextInt(2));
                Check.due(at + "lost(" + teller + ", " + k + ", " + end + ")",
                        x.lost(teller, k, end), model.lost(teller, k, end));
            }
            case 15 -> {
                if (random.nextInt(15) == 0) {
                    Check.due(at + "close(" + teller + ")", x.close(teller), model.close(teller));
                }
            }
            case 16 -> {
                long real = aSecond();
                Check.due(at + "mark(" + teller + ", " + second + ", " + real + ")",
                        x.mark(teller, second, real), model.mark(teller, second, real));
            }
            default -> {
                int part = odd(random.nextInt(2));
                Check.due(at + "corrected(" + teller + ", " + second + ", " + part + ")",
                        x.corrected(teller, second, part), model.corrected(teller, second, part));
            }
        }
    }
}
