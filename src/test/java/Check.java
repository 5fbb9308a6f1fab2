/** Counts answers that are not as due; a test calls end() last. */
final class Check {
    private static int wrong = 0;
    private static int looked = 0;
    private static String sentence = "";

    private Check() {
    }

    /** What follows looks at these words of the document: they stand before each answer that is not as due. */
    static void sentence(String promise, String words) {
        sentence = promise + ", \"" + words + "\": ";
    }

    static void due(String call, long got, long want) {
        looked++;
        if (got != want) {
            wrong++;
            System.out.println(sentence + call + " answered " + got + ", due is " + want);
        }
    }

    static void due(String call, boolean got, boolean want) {
        due(call, got ? 1 : 0, want ? 1 : 0);
    }

    static void end(String name) {
        System.out.println(name + ": " + looked + " answers, " + wrong + " not as due");
        System.exit(wrong == 0 && looked > 0 ? 0 : 1);
    }

    static ShipSets withTellers(int count) {
        ShipSets x = new ShipSets();
        for (int i = 0; i < count; i++) {
            due("teller()", x.teller(), i);
        }
        return x;
    }

    /** Numbers outside a span: next to it, far away, and such as fall into it when cut to 8 or 16 bits. */
    static int[] outside(int least, int greatest) {
        return new int[] {least - 1, greatest + 1, Integer.MIN_VALUE, Integer.MAX_VALUE, Integer.MIN_VALUE + least,
            least - (1 << 17), least + (1 << 17), greatest - (1 << 18), greatest + (1 << 18)};
    }

    /** As above for longs; some of these fall into the span when cut to 32 bits. */
    static long[] outside(long least, long greatest) {
        return new long[] {least - 1, greatest + 1, Long.MIN_VALUE, Long.MAX_VALUE, Long.MIN_VALUE + greatest,
            least - (1L << 32), least + (1L << 32), greatest - (1L << 32), greatest + (1L << 32)};
    }
}
