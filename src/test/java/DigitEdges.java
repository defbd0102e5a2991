/** Edges of promises 19 to 23: high, low, carry, cost, plan. */
final class DigitEdges {
    private DigitEdges() { }

    static void look() {
        highAndLowOutside();
        highAndLowAboutWords();
        carryRefused();
        carryState();
        carryFull();
        carryInside();
        carryOfZero();
        cost();
        plan();
    }

    private static void highAndLowOutside() {
        for (int i : new int[] {Edge.MIN, -1, 5, Edge.MAX}) {
            Edge.refused(19, "UNKNOWN", 0, "high", i);
            Edge.refused(20, "UNKNOWN", 0, "low", i);
        }
        Edge.on(new ConvolutionBench(), 19, "UNKNOWN", 0, "high", 0);
        Edge.on(new ConvolutionBench(), 20, "UNKNOWN", 0, "low", 0);
        Edge.answered(19, -1, "high", 0);
        Edge.answered(20, -900, "low", 0);
        Edge.answered(19, 0, "high", 4);
        Edge.answered(20, 7, "low", 4);
        // Entries behind the last one hold what a longer product left.
        ConvolutionBench b = Edge.with(2, Edge.same(64, Edge.MIN), new long[] {1});
        b.multiply(0, 0, 0);
        Edge.on(b, 20, "the last of 127", 1L << 62, "low", 126);
        Edge.on(b, 19, "UNKNOWN", 0, "high", 127);
        Edge.on(b, 20, "UNKNOWN", 0, "low", 127);
        b.multiply(1, 1, 0);
        Edge.on(b, 19, "UNKNOWN", 0, "high", 63);
        Edge.on(b, 20, "UNKNOWN", 0, "low", 1);
    }

    private static void dueSum(long high, long low, long... entries) {
        ConvolutionBench b = Edge.with(3, entries);
        b.slide(0, entries.length);
        Edge.on(b, 19, "a sum", high, "high", 0);
        Edge.on(b, 20, "a sum", low, "low", 0);
    }

    private static void highAndLowAboutWords() {
        long least = Long.MIN_VALUE;
        long most = Long.MAX_VALUE;
        dueSum(0, 0, 0);
        dueSum(-1, -1, -1);
        dueSum(0, most, most);
        dueSum(0, least, most, 1);
        dueSum(-1, least, least);
        dueSum(-1, most, least, -1);
        dueSum(0, -1, most, most, 1);
        dueSum(1, 0, most, most, 2);
        dueSum(0, -2, most, most);
        dueSum(-1, 0, least, least);
        dueSum(-2, -1, least, least, -1);
        dueSum(-1, 1, least, least, 1);
        dueSum(0, 0, least, most, 1);
        dueSum(-1, -1, least, most);
        dueSum(1, most, most, most, most, 2);
    }

    private static void carryRefused() {
        Edge.refusedAt(0, Edge.NO_PLACE, 21, "UNKNOWN", -1, "carry", 0, 10);
        int[] noBase = {Edge.MIN, -1, 0, 1, 10001, Edge.MAX};
        Edge.refusedAt(1, noBase, 21, "OUTSIDE", -2, "carry", 0, 10);
        Edge.refused(21, "UNKNOWN", -1, "carry", 12, 1);
        Edge.refused(21, "UNKNOWN", -1, "carry", -1, 10001);
        // THE PRODUCT that is there has entries below 0.
        Edge.refused(21, "STATE", -3, "carry", 0, 2);
        Edge.refused(21, "STATE", -3, "carry", KnownState.SHARED, 10);
        Edge.refused(21, "STATE", -3, "carry", 11, 10000);
    }

    private static void dueState(long... entries) {
        ConvolutionBench b = Edge.with(3, entries);
        b.slide(0, 1);
        Edge.on(b, 21, "STATE", -3, "carry", 0, 10);
        Edge.on(b, 21, "OUTSIDE", -2, "carry", 0, 1);
        Edge.on(b, 21, "UNKNOWN", -1, "carry", 12, 10);
        Bench.dueRow("what refusals leave", b, 0, 3, entries);
    }

    private static void carryState() {
        // One below 0 is enough, be it the first, the last, or far outweighed.
        dueState(-1);
        dueState(-1, 5);
        dueState(5, -1);
        dueState(0, -1, 1000);
        dueState(Long.MIN_VALUE);
        dueState(Edge.only(64, 63, -1));
        // STATE is asked ahead of FULL.
        long[] many = Edge.same(64, Long.MAX_VALUE);
        many[63] = -1;
        dueState(many);
        // No entries: in a new object, and where there were not w.
        ConvolutionBench b = Edge.with(2, new long[] {4});
        Edge.on(b, 21, "STATE", -3, "carry", 0, 10);
        b.slide(0, 1);
        Edge.on(b, 21, "entries", 1, "carry", 1, 10);
        b.slide(0, 2);
        Edge.on(b, 21, "STATE", -3, "carry", 0, 10);
        Bench.dueRow("what STATE leaves", b, 0, 2, 4);
    }

    private static ConvolutionBench slid(long... entries) {
        ConvolutionBench b = Edge.with(3, entries);
        b.slide(0, 1);
        return b;
    }

    private static void dueFull(int base, long... entries) {
        ConvolutionBench b = slid(entries);
        Edge.on(b, 21, "FULL", -4, "carry", 0, base);
        Bench.dueRow("what FULL leaves", b, 0, 3, entries);
        Check.due("the product stays", b.told(2), entries.length);
        Edge.on(b, 21, "FULL", -4, "carry", 11, base);
        Check.due("a place with nothing stays so", b.kind(11, 0), -9);
    }

    private static void dueDigits(int base, long[] digits, long... entries) {
        ConvolutionBench b = slid(entries);
        Edge.on(b, 21, "digits", digits.length, "carry", 11, base);
        Bench.dueRow("digits to " + base, b, 11, 2, digits);
        Check.due("the product stays", b.told(2), entries.length);
    }

    private static void carryFull() {
        long[] ones = Edge.same(64, 1);
        dueDigits(2, ones, ones);
        long[] nines = Edge.same(64, 9999);
        dueDigits(10000, nines, nines);
        // 1 more makes a digit more.
        long[] more = ones.clone();
        more[0] = 2;
        dueFull(2, more);
        more = nines.clone();
        more[0] = 10000;
        dueFull(10000, more);
        more = ones.clone();
        more[63] = 2;
        dueFull(2, more);
        dueFull(2, Edge.same(64, Long.MAX_VALUE));
        dueFull(10000, Edge.same(64, Long.MAX_VALUE));
        // A long has 63 digits to base 2; these two have 64 and 65.
        dueDigits(2, Edge.only(64, 63, 1), 0, 1L << 62);
        dueFull(2, 0, 0, 1L << 62);
        // Of 127 entries only those that are not 0 count.
        ConvolutionBench b = Edge.with(2, Edge.only(64, 32, 1), Edge.only(64, 31, 1));
        b.multiply(0, 1, 0);
        Edge.on(b, 21, "digits", 64, "carry", 11, 7);
        Bench.dueRow("64 of 127", b, 11, 2, Edge.only(64, 63, 1));
        b.multiply(0, 0, 0);
        Edge.on(b, 21, "FULL", -4, "carry", 11, 7);
        Bench.dueRow("what FULL leaves", b, 11, 2, Edge.only(64, 63, 1));
    }

    private static void carryInside() {
        dueDigits(2, new long[] {1}, 1);
        dueDigits(2, new long[] {0, 1}, 2);
        dueDigits(10000, new long[] {9999}, 9999);
        dueDigits(10000, new long[] {0, 1}, 10000);
        dueDigits(10000, new long[] {1, 1}, 10001);
        dueDigits(10, new long[] {9, 9, 9}, 9, 9, 9);
        dueDigits(10, new long[] {0, 0, 0, 1}, 10, 9, 9);
        // 9223372036854775807, and 2 to the 64 (four times the quarter) to base 16.
        dueDigits(10, new long[] {7, 0, 8, 5, 7, 7, 4, 5, 8, 6, 3, 0, 2, 7, 3, 3, 2, 2, 9}, Long.MAX_VALUE);
        ConvolutionBench b = Edge.with(3, Edge.same(4, 1L << 62));
        b.slide(0, 4);
        Edge.on(b, 21, "digits", 17, "carry", 0, 16);
        Bench.dueRow("2 to the 64", b, 0, 2, Edge.only(17, 16, 1));
        carryOfTheGreatest();
        // The new row is shared by none.
        b = Edge.with(2, new long[] {3, 5});
        b.share(1, 0);
        b.slide(0, 1);
        Edge.on(b, 21, "digits", 2, "carry", 0, 10);
        b.put(0, 0, 9);
        Bench.dueRow("the row that was there", b, 1, 2, 3, 5);
    }

    /** 2 to the 74, whose lower half is 0, and stays 0 for some digits. */
    private static void carryOfTheGreatest() {
        ConvolutionBench b = Edge.with(2, Edge.same(64, Edge.MIN));
        b.circular(0, 0, 1);
        Edge.on(b, 21, "digits", 38, "carry", 1, 4);
        Bench.dueRow("to base 4", b, 1, 2, Edge.only(38, 37, 1));
        Edge.on(b, 21, "digits", 23, "carry", 1, 10);
        Bench.dueRow("to base 10", b, 1, 2, 4, 8, 7, 4, 5, 8, 0, 8, 5, 8, 7, 4, 1, 3, 9, 5, 6, 4, 9, 8, 8, 8, 1);
        Edge.on(b, 21, "FULL", -4, "carry", 1, 2);
        b.circular(0, 0, 2);
        Edge.on(b, 21, "digits", 48, "carry", 1, 3);
    }

    /** "no 0 at the end, but one digit at least". */
    private static void carryOfZero() {
        dueDigits(2, new long[] {0}, 0);
        dueDigits(10000, new long[] {0}, 0, 0, 0);
        dueDigits(2, new long[] {0}, new long[64]);
        dueDigits(10, new long[] {7}, 7, 0, 0);
        dueDigits(10, new long[] {0, 0, 1}, 0, 0, 1, 0);
    }

    private static void cost() {
        Edge.refusedAt(0, Edge.NO_WAY, 22, "UNKNOWN", -1, "cost", 0, 1, 1);
        Edge.refusedAt(0, Edge.NO_WAY, 22, "UNKNOWN", -1, "cost", 0, 0, 65);
        for (int way = 0; way < 3; way++) {
            Edge.refusedAt(1, Edge.NO_COUNT, 22, "OUTSIDE", -2, "cost", way, 1, 1);
            Edge.refusedAt(2, Edge.NO_COUNT, 22, "OUTSIDE", -2, "cost", way, 64, 64);
        }
        Edge.answered(22, 1, "cost", 0, 1, 1);
        Edge.answered(22, 4096, "cost", 0, 64, 64);
        Edge.answered(22, 2, "cost", 1, 1, 1);
        Edge.answered(22, 1600, "cost", 1, 64, 64);
        Edge.answered(22, 12, "cost", 2, 1, 1);
        Edge.answered(22, 5562, "cost", 2, 64, 64);
        Edge.answered(22, 64, "cost", 0, 1, 64);
        Edge.answered(22, 704, "cost", 1, 64, 1);
    }

    private static void plan() {
        Edge.refusedAt(0, Edge.NO_COUNT, 23, "OUTSIDE", -2, "plan", 1, 1);
        Edge.refusedAt(1, Edge.NO_COUNT, 23, "OUTSIDE", -2, "plan", 64, 64);
        Edge.refused(23, "OUTSIDE", -2, "plan", 0, 65);
        Edge.answered(23, 0, "plan", 1, 1);
        Edge.answered(23, 0, "plan", 64, 64);
        Edge.answered(23, 0, "plan", 1, 64);
        Edge.answered(23, 0, "plan", 64, 1);
        // By the COSTS told, way 0 is never the dearer one.
        for (int n = 1; n <= 64; n++) {
            for (int m = 1; m <= 64; m++) {
                ConvolutionBench b = new ConvolutionBench();
                Check.holds("way 2 costs more", b.cost(2, n, m) > b.cost(0, n, m));
                Check.due("plan(" + n + ", " + m + ")", b.plan(n, m), 0);
            }
        }
    }
}
