/** Edges of promises 15 to 18: multiply, circular, correlate, slide. */
final class ProductEdges {
    private static final int NOTHING = KnownState.NOTHING, BYTES = KnownState.BYTES, SHORTS = KnownState.SHORTS,
        INTS = KnownState.INTS, LONGS = KnownState.LONGS, DOUBLES = KnownState.DOUBLES, LARGE = KnownState.LARGE;

    private ProductEdges() { }

    static void look() {
        multiplyRefused();
        multiplyFaulted();
        multiplyByOnePrime();
        multiplyOfTheGreatest();
        multiplyInside();
        circularRefused();
        circularAround();
        correlateRefused();
        correlateInside();
        slideRefused();
        slideInside();
    }

    private static void multiplyRefused() {
        for (int way = 0; way < 3; way++) {
            Edge.refusedAt(0, Edge.NO_PLACE, 15, "UNKNOWN", -1, "multiply", 0, 1, way);
            Edge.refusedAt(1, Edge.NO_PLACE, 15, "UNKNOWN", -1, "multiply", 0, 1, way);
        }
        Edge.refusedAt(2, Edge.NO_WAY, 15, "OUTSIDE", -2, "multiply", 0, 1, 0);
        // UNKNOWN is asked ahead of OUTSIDE, and that ahead of NULL and CAST.
        Edge.refused(15, "UNKNOWN", -1, "multiply", 12, 0, 3);
        Edge.refused(15, "UNKNOWN", -1, "multiply", NOTHING, -1, -1);
        Edge.refused(15, "UNKNOWN", -1, "multiply", NOTHING, 12, 0);
        Edge.refused(15, "UNKNOWN", -1, "multiply", LONGS, 12, 0);
        Edge.refusedAt(2, Edge.NO_WAY, 15, "OUTSIDE", -2, "multiply", NOTHING, 0, 0);
        Edge.refusedAt(2, Edge.NO_WAY, 15, "OUTSIDE", -2, "multiply", DOUBLES, LONGS, 0);
        Edge.refused(15, "STATE", -3, "multiply", LARGE, LARGE, 1);
    }

    private static void multiplyFaulted() {
        for (int way = 0; way < 3; way++) {
            pairFaulted(15, "multiply", way);
        }
        // By way 1 these would be refused for their size, too; CAST is come to ahead of it.
        Edge.faulted(15, "CAST", "multiply", LARGE, LONGS, 1);
        Edge.faulted(15, "CAST", "multiply", LONGS, LARGE, 1);
        Edge.faulted(15, "NULL", "multiply", LARGE, NOTHING, 1);
    }

    /** NULL: a, b; CAST: a, then b is not SMALL. */
    private static void pairFaulted(int promise, String name, long... more) {
        pair(promise, "NULL", name, NOTHING, BYTES, more);
        pair(promise, "NULL", name, BYTES, NOTHING, more);
        pair(promise, "NULL", name, NOTHING, NOTHING, more);
        for (int wide : new int[] {LONGS, DOUBLES}) {
            pair(promise, "NULL", name, wide, NOTHING, more);
            pair(promise, "NULL", name, NOTHING, wide, more);
            pair(promise, "CAST", name, wide, BYTES, more);
            pair(promise, "CAST", name, BYTES, wide, more);
            pair(promise, "CAST", name, wide, wide, more);
        }
    }

    private static void pair(int promise, String word, String name, int a, int b, long... more) {
        long[] args = new long[2 + more.length];
        args[0] = a;
        args[1] = b;
        System.arraycopy(more, 0, args, 2, more.length);
        Edge.faulted(promise, word, name, args);
    }

    /** The product by a way, on an object of its own, for two long ones together take more calls than there are. */
    private static String productBy(int way, boolean below, int lane, long[] x, long[] y) {
        ConvolutionBench b = Edge.with(lane, x, y);
        if (below) {
            Edge.on(b, 15, "a way", x.length + y.length - 1, "multiply", 0, 1, way);
        } else {
            Edge.on(b, 15, "STATE", -3, "multiply", 0, 1, way);
        }
        return product(b);
    }

    /** Twice the shorter count, times both sizes, is told below 998244353 or not; the other ways ask nothing. */
    private static void dueByOnePrime(boolean below, int lane, long[] x, long[] y) {
        String plain = productBy(0, true, lane, x, y);
        Check.due("by way 2", productBy(2, true, lane, x, y), plain);
        Check.due("by way 1", productBy(1, below, lane, x, y), below ? plain : "");
        Check.due("by way 1, the other way round", productBy(1, below, lane, y, x), below ? plain : "");
    }

    private static String product(ConvolutionBench b) {
        StringBuilder told = new StringBuilder();
        int count = b.told(2);
        for (int i = 0; i < count; i++) {
            told.append(b.high(i)).append(':').append(b.low(i)).append(' ');
        }
        return told.toString();
    }

    private static void multiplyByOnePrime() {
        // 998244352 is 2 * 499122176, 4 * 249561088, 128 * 7798784; 7798784 is 119 * 65536, 499122176 is 32768 * 15232.
        long[] one = {1};
        dueByOnePrime(true, 2, new long[] {499122176}, one);
        dueByOnePrime(true, 2, new long[] {-499122176}, one);
        dueByOnePrime(false, 2, new long[] {499122177}, one);
        dueByOnePrime(false, 2, new long[] {-499122177}, one);
        dueByOnePrime(true, 2, new long[] {22528}, new long[] {-22155});
        dueByOnePrime(false, 2, new long[] {22528}, new long[] {-22156});
        dueByOnePrime(true, 2, new long[] {249561088, -249561088}, new long[] {-1, 1});
        dueByOnePrime(false, 2, new long[] {0, -249561089}, new long[] {-1, 1});
        // The shorter one is counted, and the greatest size is that of any entry.
        dueByOnePrime(true, 2, new long[] {499122176}, new long[] {1, 0, -1});
        dueByOnePrime(true, 2, new long[] {1, 0, -1}, new long[] {499122176});
        dueByOnePrime(false, 2, new long[] {1, 0, 0}, new long[] {0, 249561089});
        dueByOnePrime(true, 2, Edge.same(64, 119), Edge.same(64, 65536));
        dueByOnePrime(true, 2, Edge.same(64, -119), Edge.same(64, 65536));
        dueByOnePrime(false, 2, Edge.only(64, 63, 7798785), Edge.only(64, 63, 1));
        dueByOnePrime(true, 2, Edge.only(63, 62, 7798785), Edge.only(64, 63, -1));
        dueByOnePrime(true, 0, Edge.same(64, -128), Edge.same(64, -128));
        dueByOnePrime(true, 1, Edge.same(64, 2792), Edge.same(64, -2792));
        dueByOnePrime(false, 1, Edge.same(64, 2793), Edge.same(64, -2793));
        dueByOnePrime(false, 1, new long[] {-32768}, new long[] {-32768});
        dueByOnePrime(true, 1, new long[] {-32768}, new long[] {15232});
        dueByOnePrime(false, 1, new long[] {-32768}, new long[] {15233});
    }

    private static void multiplyOfTheGreatest() {
        long[] zero = {0};
        dueByOnePrime(true, 2, new long[] {Edge.MIN}, zero);
        dueByOnePrime(true, 2, Edge.same(64, Edge.MIN), new long[64]);
        dueByOnePrime(false, 2, new long[] {Edge.MIN}, new long[] {1});
        dueByOnePrime(false, 2, new long[] {Edge.MAX}, new long[] {-1});
        dueByOnePrime(false, 2, new long[] {Edge.MIN}, new long[] {Edge.MIN});
        // 2 * 2 * 2 to the 62, and 2 * 64 * 2 to the 62, leave 0 in a long.
        dueByOnePrime(false, 2, Edge.same(2, Edge.MIN), Edge.same(2, Edge.MIN));
        dueByOnePrime(false, 2, Edge.same(64, Edge.MIN), Edge.same(64, Edge.MIN));
        for (int way = 0; way < 3; way += 2) {
            ConvolutionBench b = Edge.with(2, Edge.same(64, Edge.MIN), Edge.same(64, Edge.MAX));
            Edge.on(b, 15, "the greatest", 127, "multiply", 0, 0, way);
            // 64 times 2 to the 62 is 2 to the 68: 16 in the upper half.
            Check.due("high(63)", b.high(63), 16);
            Check.due("low(63)", b.low(63), 0);
            Check.due("high(0)", b.high(0), 0);
            Check.due("low(0)", b.low(0), 1L << 62);
            Edge.on(b, 15, "the least", 127, "multiply", 0, 1, way);
            // 64 times 2 to the 31 less 2 to the 62.
            Check.due("high(63)", b.high(63), -16);
            Check.due("low(63)", b.low(63), 1L << 37);
            Check.due("high(126)", b.high(126), -1);
            Check.due("low(126)", b.low(126), (1L << 31) - (1L << 62));
            Check.due("high(127)", b.high(127), 0);
        }
    }

    private static void multiplyInside() {
        for (int way = 0; way < 3; way++) {
            ConvolutionBench b = Edge.answered(15, 7, "multiply", 0, 11, way);
            Bench.dueProduct("places 0 and 11", b, 3, 2, 6, 7, 4, 5, 1);
            b = Edge.answered(15, 7, "multiply", 11, 0, way);
            Bench.dueProduct("places 11 and 0", b, 3, 2, 6, 7, 4, 5, 1);
            b = Edge.with(0, new long[] {-128});
            Edge.on(b, 15, "one entry", 1, "multiply", 0, 0, way);
            Bench.dueProduct("one entry", b, 16384);
        }
    }

    private static void circularRefused() {
        Edge.refusedAt(0, Edge.NO_PLACE, 16, "UNKNOWN", -1, "circular", 0, 1, 1);
        Edge.refusedAt(1, Edge.NO_PLACE, 16, "UNKNOWN", -1, "circular", 0, 1, 64);
        Edge.refusedAt(2, Edge.NO_COUNT, 16, "OUTSIDE", -2, "circular", 0, 1, 1);
        Edge.refused(16, "UNKNOWN", -1, "circular", 12, 0, 0);
        Edge.refused(16, "UNKNOWN", -1, "circular", NOTHING, -1, 65);
        Edge.refusedAt(2, Edge.NO_COUNT, 16, "OUTSIDE", -2, "circular", NOTHING, 0, 1);
        Edge.refusedAt(2, Edge.NO_COUNT, 16, "OUTSIDE", -2, "circular", DOUBLES, LONGS, 1);
        pairFaulted(16, "circular", 1);
        pairFaulted(16, "circular", 64);
    }

    private static void dueCircle(long[] x, long[] y, long... entries) {
        ConvolutionBench b = Edge.with(2, x, y);
        Edge.on(b, 16, "around", entries.length, "circular", 0, 1, entries.length);
        Bench.dueProduct("around " + entries.length, b, entries);
    }

    private static void circularAround() {
        long[] x = {1, 2, 3};
        long[] y = {10, 100};
        // As a product: 10, 120, 230, 300.
        dueCircle(x, y, 660);
        dueCircle(x, y, 240, 420);
        dueCircle(x, y, 310, 120, 230);
        dueCircle(x, y, 10, 120, 230, 300);
        dueCircle(x, y, 10, 120, 230, 300, 0);
        dueCircle(new long[] {-3}, new long[] {5}, Edge.only(64, 0, -15));
        dueCircle(new long[] {-3}, new long[] {5}, -15);
        dueCircle(Edge.only(64, 63, 2), Edge.only(64, 63, -3), Edge.only(64, 62, -6));
        dueCircle(Edge.only(64, 63, 2), Edge.only(64, 63, -3), Edge.only(63, 0, -6));
        dueCircle(Edge.only(64, 63, 2), Edge.only(64, 1, -3), Edge.only(64, 0, -6));
        dueCircle(Edge.same(64, 1), Edge.same(64, 1), Edge.same(64, 64));
        dueCircle(Edge.same(64, 1), Edge.same(64, 1), 2048, 2048);
        ConvolutionBench b = Edge.with(2, Edge.same(64, Edge.MIN), Edge.same(64, Edge.MAX));
        Edge.on(b, 16, "the greatest", 1, "circular", 0, 0, 1);
        Check.due("high(0)", b.high(0), 1024);
        Check.due("low(0)", b.low(0), 0);
        Edge.on(b, 16, "the least", 1, "circular", 0, 1, 1);
        Check.due("high(0)", b.high(0), -1024);
        Check.due("low(0)", b.low(0), 1L << 43);
        Edge.answered(16, 1, "circular", 0, 11, 1);
        Edge.answered(16, 64, "circular", 11, 0, 64);
        Edge.answered(16, 2, "circular", INTS, LARGE, 2);
    }

    private static void correlateRefused() {
        Edge.refusedAt(0, Edge.NO_PLACE, 17, "UNKNOWN", -1, "correlate", 0, 1);
        Edge.refusedAt(1, Edge.NO_PLACE, 17, "UNKNOWN", -1, "correlate", 0, 1);
        Edge.refused(17, "UNKNOWN", -1, "correlate", NOTHING, 12);
        Edge.refused(17, "UNKNOWN", -1, "correlate", -1, DOUBLES);
        pairFaulted(17, "correlate");
    }

    private static void correlateInside() {
        ConvolutionBench b = Edge.answered(17, 5, "correlate", BYTES, SHORTS);
        Bench.dueProduct("4 by 2", b, 21, -907, 328, -1193, -300);
        b = Edge.answered(17, 5, "correlate", SHORTS, INTS);
        Bench.dueProduct("2 by 4", b, -600, 14, 0, -1500, 35);
        Edge.answered(17, 7, "correlate", 0, 11);
        Edge.answered(17, 7, "correlate", 11, 0);
        b = Edge.with(2, new long[] {-7});
        Edge.on(b, 17, "one entry", 1, "correlate", 0, 0);
        Bench.dueProduct("one entry", b, 49);
        b = Edge.with(2, Edge.only(64, 63, 5), new long[] {-1}, Edge.only(64, 0, 3));
        Edge.on(b, 17, "64 by 1", 64, "correlate", 0, 1);
        Bench.dueProduct("64 by 1", b, Edge.only(64, 63, -5));
        Edge.on(b, 17, "1 by 64", 64, "correlate", 1, 0);
        Bench.dueProduct("1 by 64", b, Edge.only(64, 0, -5));
        b = Edge.with(2, Edge.only(64, 63, 5), Edge.only(64, 0, 3));
        Edge.on(b, 17, "64 by 64", 127, "correlate", 0, 1);
        Check.due("the last entry is x(n - 1) y(0)", b.low(126), 15);
        Edge.on(b, 17, "64 by 64", 127, "correlate", 1, 0);
        Check.due("the first entry is x(0) y(m - 1)", b.low(0), 15);
        Edge.on(b, 17, "64 by 64", 127, "correlate", 0, 0);
        Check.due("the middle one", b.low(63), 25);
    }

    private static void slideRefused() {
        Edge.refusedAt(0, Edge.NO_PLACE, 18, "UNKNOWN", -1, "slide", 0, 1);
        Edge.refusedAt(1, Edge.NO_COUNT, 18, "OUTSIDE", -2, "slide", 0, 1);
        Edge.refusedAt(1, Edge.NO_COUNT, 18, "OUTSIDE", -2, "slide", NOTHING, 1);
        Edge.refusedAt(1, Edge.NO_COUNT, 18, "OUTSIDE", -2, "slide", DOUBLES, 1);
        Edge.refused(18, "UNKNOWN", -1, "slide", 12, 0);
        Edge.faulted(18, "NULL", "slide", NOTHING, 1);
        Edge.faulted(18, "NULL", "slide", NOTHING, 64);
        Edge.faulted(18, "CAST", "slide", DOUBLES, 1);
        Edge.faulted(18, "CAST", "slide", DOUBLES, 64);
    }

    private static void slideInside() {
        ConvolutionBench b = Edge.answered(18, 4, "slide", BYTES, 1);
        Bench.dueProduct("by 1", b, 3, -1, 4, 1);
        b = Edge.answered(18, 2, "slide", BYTES, 3);
        Bench.dueProduct("by 3", b, 6, 4);
        b = Edge.answered(18, 1, "slide", BYTES, 4);
        Bench.dueProduct("all of them", b, 7);
        b = Edge.answered(18, 0, "slide", BYTES, 5);
        Bench.dueProduct("there are not w", b);
        b = Edge.answered(18, 0, "slide", 11, 64);
        Bench.dueProduct("there are not w", b);
        b = Edge.answered(18, 1, "slide", KnownState.WIDEST, 64);
        Bench.dueProduct("64 of 64", b, -8);
        b = Edge.answered(18, 0, "slide", KnownState.WIDEST - 1, 64);
        Bench.dueProduct("64 of 3", b);
        b = Edge.answered(18, 1, "slide", LONGS, 4);
        Bench.dueProduct("LONGS are WHOLE", b, (1L << 40) - 2);
        b = Edge.with(3, Edge.same(64, Long.MIN_VALUE), Edge.same(64, Long.MAX_VALUE));
        Edge.on(b, 18, "the least", 1, "slide", 0, 64);
        Check.due("high(0)", b.high(0), -32);
        Check.due("low(0)", b.low(0), 0);
        Edge.on(b, 18, "the greatest", 1, "slide", 1, 64);
        Check.due("high(0)", b.high(0), 31);
        Check.due("low(0)", b.low(0), -64);
    }
}
