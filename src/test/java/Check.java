/** Counts answers that are not as due; a test calls end() last. */
final class Check {
    private static int wrong = 0;
    private static int looked = 0;

    private Check() {
    }

    static void due(String call, long got, long want) {
        looked++;
        if (got != want) {
            wrong++;
            System.out.println(call + " answered " + got + ", due is " + want);
        }
    }

    static void due(String call, boolean got, boolean want) {
        due(call, got ? 1 : 0, want ? 1 : 0);
    }

    static void end(String name) {
        System.out.println(name + ": " + looked + " answers, " + wrong + " not as due");
        System.exit(wrong == 0 && looked > 0 ? 0 : 1);
    }

    static ShipSets withTellers(int count) {
        ShipSets x = new ShipSets();
        for (int i = 0; i < count; i++) {
            due("teller()", x.teller(), i);
        }
        return x;
    }
}
