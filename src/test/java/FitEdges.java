/** Edges of promises 31 to 34: match, matchAt, real, realAt. */
final class FitEdges {
    private static final int NOTHING = KnownState.NOTHING, DOUBLES = KnownState.DOUBLES;
    private static final double INFINITE = Double.POSITIVE_INFINITY, NONE = Double.NaN;

    private FitEdges() { }

    static void look() {
        matchRefused();
        matchOfLengths();
        matchWild();
        matchAt();
        realRefused();
        realOfLanes();
        realOfLengths();
        realOfNoNumbers();
        realRounded();
        realAt();
    }

    private static void matchRefused() {
        for (long wild : new long[] {Long.MIN_VALUE, 0, Long.MAX_VALUE}) {
            Edge.refusedAt(0, Edge.NO_PLACE, 31, "UNKNOWN", -1, "match", 0, 1, wild);
            Edge.refusedAt(1, Edge.NO_PLACE, 31, "UNKNOWN", -1, "match", 0, 1, wild);
            Edge.refused(31, "UNKNOWN", -1, "match", NOTHING, 12, wild);
            Edge.refused(31, "UNKNOWN", -1, "match", -1, DOUBLES, wild);
            Edge.faulted(31, "NULL", "match", NOTHING, 0, wild);
            Edge.faulted(31, "NULL", "match", 0, NOTHING, wild);
            Edge.faulted(31, "NULL", "match", NOTHING, NOTHING, wild);
            Edge.faulted(31, "NULL", "match", DOUBLES, NOTHING, wild);
            Edge.faulted(31, "NULL", "match", NOTHING, DOUBLES, wild);
            Edge.faulted(31, "CAST", "match", DOUBLES, 0, wild);
            Edge.faulted(31, "CAST", "match", 0, DOUBLES, wild);
            Edge.faulted(31, "CAST", "match", DOUBLES, DOUBLES, wild);
        }
        // A pattern that is longer than its text fits nowhere, but is asked for NULL and CAST.
        Edge.faulted(31, "CAST", "match", KnownState.SHORTS, DOUBLES, 0);
    }

    private static void dueMatch(long[] text, long[] pattern, long wild, int... places) {
        ConvolutionBench b = Edge.with(3, text, pattern);
        Edge.on(b, 31, "fits", places.length, "match", 0, 1, wild);
        Bench.dueFits("match", b, places);
    }

    private static void matchOfLengths() {
        dueMatch(new long[] {5}, new long[] {5}, 0, 0);
        dueMatch(new long[] {5}, new long[] {6}, 0);
        dueMatch(new long[] {5}, new long[] {5, 5}, 5);
        dueMatch(new long[] {5, 6}, new long[] {5, 6}, 0, 0);
        dueMatch(new long[] {5, 6}, new long[] {5, 6, 7}, 0);
        dueMatch(new long[] {5, 6, 5}, new long[] {5}, 0, 0, 2);
        dueMatch(new long[] {4, 5, 6}, new long[] {5, 6}, 0, 1);
        dueMatch(Edge.only(64, 63, 1), new long[] {1}, 9, 63);
        dueMatch(Edge.only(64, 63, 1), new long[] {0, 1}, 9, 62);
        dueMatch(Edge.only(64, 0, 1), Edge.only(64, 0, 1), 9, 0);
        dueMatch(Edge.only(64, 0, 1), Edge.only(64, 63, 1), 9);
        dueMatch(new long[] {1}, Edge.same(64, 1), 1);
        int[] all = new int[64];
        for (int i = 0; i < 64; i++) {
            all[i] = i;
        }
        dueMatch(Edge.same(64, 1), new long[] {1}, 9, all);
        Edge.answered(31, 1, "match", 0, 11, 1);
        Edge.answered(31, 0, "match", 11, 0, 9);
        Edge.answered(31, 1, "match", 11, 11, 9);
    }

    private static void matchWild() {
        long least = Long.MIN_VALUE;
        long most = Long.MAX_VALUE;
        dueMatch(new long[] {least, 1, most}, new long[] {2}, least, 0);
        dueMatch(new long[] {least, 1, most}, new long[] {2}, most, 2);
        dueMatch(new long[] {1, 2, 3}, new long[] {least}, least, 0, 1, 2);
        dueMatch(new long[] {1, 2, 3}, new long[] {most}, most, 0, 1, 2);
        dueMatch(new long[] {least}, new long[] {most}, 0);
        dueMatch(new long[] {0, 0, 0}, new long[] {1, 2}, 0, 0, 1);
        dueMatch(new long[] {1, 2, 3}, new long[] {0, 0}, 0, 0, 1);
        dueMatch(new long[] {0, 2}, new long[] {1, 0}, 0, 0);
        // The wild one is told: 255 is no byte, -1 is.
        ConvolutionBench b = Edge.with(0, new long[] {255, 7}, new long[] {3});
        Edge.on(b, 31, "told", 0, "match", 0, 1, 255);
        Edge.on(b, 31, "told", 1, "match", 0, 1, -1);
        Edge.on(b, 31, "told", 0, "match", 0, 1, (1L << 32) - 1);
        Bench.dueFits("no fits", b);
        // Rows of two LANES are told alike, or not.
        Bench.fill(b, 2, 3, -1);
        Edge.on(b, 31, "told", 1, "match", 0, 2, 9);
        Bench.fill(b, 2, 3, 255);
        Edge.on(b, 31, "told", 0, "match", 0, 2, 9);
        Edge.on(b, 31, "told", 2, "match", 0, 2, 255);
    }

    private static void matchAt() {
        for (int i : new int[] {Edge.MIN, -1, 1, Edge.MAX}) {
            Edge.refused(32, "NONE", -9, "matchAt", i);
        }
        Edge.on(new ConvolutionBench(), 32, "NONE", -9, "matchAt", 0);
        Edge.answered(32, 0, "matchAt", 0);
        ConvolutionBench b = Edge.with(0, new long[64], new long[] {0});
        b.match(0, 1, 1);
        Edge.on(b, 32, "the first", 0, "matchAt", 0);
        Edge.on(b, 32, "the last of 64", 63, "matchAt", 63);
        Edge.on(b, 32, "NONE", -9, "matchAt", 64);
        b.match(1, 0, 1);
        Edge.on(b, 32, "NONE", -9, "matchAt", 0);
    }

    private static void realRefused() {
        Edge.refusedAt(0, Edge.NO_PLACE, 33, "UNKNOWN", -1, "real", 0, 1);
        Edge.refusedAt(1, Edge.NO_PLACE, 33, "UNKNOWN", -1, "real", 0, 1);
        Edge.refused(33, "UNKNOWN", -1, "real", NOTHING, 12);
        Edge.refused(33, "UNKNOWN", -1, "real", -1, NOTHING);
        Edge.faulted(33, "NULL", "real", NOTHING, 0);
        Edge.faulted(33, "NULL", "real", 0, NOTHING);
        Edge.faulted(33, "NULL", "real", NOTHING, NOTHING);
        Edge.faulted(33, "NULL", "real", DOUBLES, NOTHING);
    }

    private static void dueReal(double[] x, double[] y, double... entries) {
        ConvolutionBench b = new ConvolutionBench();
        Bench.fillDoubles(b, 0, x);
        Bench.fillDoubles(b, 1, y);
        Edge.on(b, 33, "reals", entries.length, "real", 0, 1);
        Bench.dueReals("real", b, entries);
    }

    private static double[] row(double... entries) {
        return entries;
    }

    /** "as doubles (WHOLE ones cast)": no LANE is refused. */
    private static void realOfLanes() {
        for (int p = 0; p < 5; p++) {
            for (int q = 0; q < 5; q++) {
                int count = (p == 1 ? 2 : 4) + (q == 1 ? 2 : 4) - 1;
                Edge.answered(33, count, "real", p, q);
            }
        }
        ConvolutionBench b = Edge.answered(33, 7, "real", 0, 11);
        Bench.dueReals("places 0 and 11", b, 3, 2, 6, 7, 4, 5, 1);
        b = Edge.answered(33, 7, "real", 11, 0);
        Bench.dueReals("places 11 and 0", b, 3, 2, 6, 7, 4, 5, 1);
        // The cast of a long is rounded, and is no reading of bits.
        b = Edge.with(3, new long[] {Long.MIN_VALUE, Long.MAX_VALUE, (1L << 53) + 1, (1L << 53) + 3, 0x7ff8000000000000L},
            new long[] {1});
        Edge.on(b, 33, "longs", 5, "real", 0, 1);
        Bench.dueReals("longs", b, -0x1p63, 0x1p63, 0x1p53, 0x1p53 + 4, 9.221120237041090560e18);
    }

    private static void realOfLengths() {
        dueReal(row(3), row(0.5), 1.5);
        ConvolutionBench b = new ConvolutionBench();
        b.row(0, 4, 64);
        b.put(0, 63, Double.doubleToLongBits(-0.5));
        b.share(11, 0);
        Edge.on(b, 33, "64 by 64", 127, "real", 0, 11);
        Check.due("the last one", b.realAt(126), Double.doubleToLongBits(0.25));
        Check.due("the first one", b.realAt(0), 0);
        Check.due("behind the last one", b.realAt(127), Bench.NAN);
        Check.due("how many", b.told(6), 127);
    }

    /** "not a number from where an act would give none, or meets one". */
    private static void realOfNoNumbers() {
        dueReal(row(NONE), row(0), NONE);
        dueReal(row(0), row(NONE), NONE);
        dueReal(row(NONE, 1), row(1, 2), NONE, NONE, 2);
        dueReal(row(1, NONE), row(1, 2), 1, NONE, NONE);
        dueReal(row(INFINITE), row(0), NONE);
        dueReal(row(-0.0), row(-INFINITE), NONE);
        dueReal(row(INFINITE), row(-INFINITE), -INFINITE);
        dueReal(row(INFINITE), row(Double.MIN_VALUE), INFINITE);
        dueReal(row(-INFINITE), row(Double.MIN_VALUE), -INFINITE);
        dueReal(row(INFINITE, -INFINITE), row(1, 1), INFINITE, NONE, -INFINITE);
        dueReal(row(-INFINITE, INFINITE), row(1, 1), -INFINITE, NONE, INFINITE);
        dueReal(row(INFINITE, INFINITE), row(1, 1), INFINITE, INFINITE, INFINITE);
        dueReal(row(INFINITE, -INFINITE, INFINITE), row(1, 1, 1), INFINITE, NONE, NONE, NONE, INFINITE);
        // What runs over is infinite, and no number comes of it where two of them meet.
        dueReal(row(Double.MAX_VALUE), row(2), INFINITE);
        dueReal(row(Double.MAX_VALUE), row(-2), -INFINITE);
        dueReal(row(Double.MAX_VALUE, -Double.MAX_VALUE), row(2, 2), INFINITE, NONE, -INFINITE);
        dueReal(row(Double.MAX_VALUE, Double.MAX_VALUE), row(1, 1), Double.MAX_VALUE, INFINITE, Double.MAX_VALUE);
        dueReal(row(Double.MAX_VALUE, -Double.MAX_VALUE), row(1, 1), Double.MAX_VALUE, 0, -Double.MAX_VALUE);
        // Each kind of bits that is not a number is told as the one.
        ConvolutionBench b = Edge.with(4, new long[] {-1, 0x7ff0000000000001L}, new long[] {0x3ff0000000000000L});
        Edge.on(b, 33, "reals", 2, "real", 0, 1);
        Bench.dueReals("no numbers", b, NONE, NONE);
    }

    /** "the sum, from 0.0 on, by rising i", "each act rounded by itself". */
    private static void realRounded() {
        dueReal(row(-0.0), row(1), 0.0);
        dueReal(row(-0.0), row(-0.0), 0.0);
        dueReal(row(-0.0, -0.0), row(1, 1), 0.0, 0.0, 0.0);
        dueReal(row(Double.MIN_VALUE), row(-0.5), 0.0);
        dueReal(row(Double.MIN_VALUE), row(0.5), 0.0);
        dueReal(row(Double.MIN_VALUE), row(0.75), Double.MIN_VALUE);
        dueReal(row(Double.MIN_VALUE), row(1), Double.MIN_VALUE);
        dueReal(row(Double.MIN_VALUE), row(-1), -Double.MIN_VALUE);
        dueReal(row(0x1.fffffffffffffp-1023), row(1), Double.MIN_NORMAL);
        dueReal(row(Double.MIN_NORMAL), row(1), Double.MIN_NORMAL);
        dueReal(row(0x0.fffffffffffffp-1022), row(1), 0x0.fffffffffffffp-1022);
        dueReal(row(Double.MAX_VALUE), row(-1), -Double.MAX_VALUE);
        dueReal(row(1e16, 1, 1), row(1, 1, 1), 1e16, 1e16, 1e16, 2, 1);
        dueReal(row(1, 1, 1e16), row(1, 1, 1), 1, 2, 1e16 + 2, 1e16, 1e16);
        dueReal(row(0.1), row(0.1), 0.010000000000000002);
        // A fused act would leave 2 to the -104 in the middle.
        double near = 1 + 0x1p-52;
        dueReal(row(-1, near), row(near, 1 + 0x1p-51), -near, 0.0, 1 + 0x3p-52);
    }

    private static void realAt() {
        for (int i : new int[] {Edge.MIN, -1, 5, Edge.MAX}) {
            Edge.refused(34, "UNKNOWN", Bench.NAN, "realAt", i);
        }
        Edge.on(new ConvolutionBench(), 34, "UNKNOWN", Bench.NAN, "realAt", 0);
        Edge.answered(34, Double.doubleToLongBits(-150.0), "realAt", 0);
        Edge.answered(34, Double.doubleToLongBits(3.5), "realAt", 1);
        Edge.answered(34, Double.doubleToLongBits(INFINITE), "realAt", 2);
        Edge.answered(34, Bench.NAN, "realAt", 4);
        ConvolutionBench b = Edge.with(2, new long[] {1, 2}, new long[] {3});
        b.real(0, 0);
        b.real(1, 1);
        Edge.on(b, 34, "the only one", Double.doubleToLongBits(9), "realAt", 0);
        Edge.on(b, 34, "UNKNOWN", Bench.NAN, "realAt", 1);
    }
}
