import java.util.Random;

/** Promises 31 to 34: match, matchAt, real, realAt. */
public final class FitsAndDoublesTest {
    private static final double INF = Double.POSITIVE_INFINITY;

    public static void main(String[] args) {
        match();
        matchRefused();
        matchAt();
        real();
        realOfWholes();
        realEdges();
        realRandom();
        realRefused();
        Check.end();
    }

    private static void match() {
        ConvolutionBench b = new ConvolutionBench();
        Bench.fill(b, 0, Bench.BYTES, 1, 2, 1, 2, 1, 9, 1);
        Bench.fill(b, 1, Bench.LONGS, 1, 2, 1);
        Bench.dueFault("match(0, 1, 0)", b, b.match(0, 1, 0), 2, 0);
        Bench.dueFits("no wild one", b, 0, 2);
        Check.due("match(0, 1, 9)", b.match(0, 1, 9), 3);
        Bench.dueFits("wild in the text", b, 0, 2, 4);
        Check.due("match(0, 1, 2)", b.match(0, 1, 2), 4);
        Bench.dueFits("wild in both", b, 0, 1, 2, 4);
        Check.due("match(0, 1, 1)", b.match(0, 1, 1), 4);
        Bench.dueFits("wild at both ends", b, 0, 1, 2, 3);
        Check.due("match(1, 0, 0)", b.match(1, 0, 0), 0);
        Bench.dueFits("a pattern that is longer", b);
        Check.due("match(0, 0, 77)", b.match(0, 0, 77), 1);
        Bench.dueFits("a row in itself", b, 0);
        Bench.fill(b, 2, Bench.BYTES, 1 + 256);
        Check.due("match(0, 2, 257)", b.match(0, 2, 257), 4);
        Bench.dueFits("told as bytes", b, 0, 2, 4, 6);
        Bench.fill(b, 2, Bench.LONGS, 1 + 256);
        Check.due("match(0, 2, 5)", b.match(0, 2, 5), 0);
        Bench.dueFits("told as longs", b);
        Check.due("match(0, 2, 257)", b.match(0, 2, 257), 7);
        Bench.dueFits("all wild", b, 0, 1, 2, 3, 4, 5, 6);
        Bench.fill(b, 3, Bench.INTS, new long[64]);
        Bench.fill(b, 4, Bench.SHORTS, -1);
        Check.due("match(3, 4, -1)", b.match(3, 4, -1), 64);
        Check.due("matchAt(63)", b.matchAt(63), 63);
        Check.due("matchAt(64)", b.matchAt(64), -9);
        Random random = new Random(31);
        for (int round = 0; round < 300; round++) {
            int n = 1 + random.nextInt(64);
            int m = 1 + random.nextInt(6);
            long[] text = new long[n];
            long[] pattern = new long[m];
            for (int i = 0; i < n; i++) {
                text[i] = random.nextInt(3) - 1;
            }
            for (int i = 0; i < m; i++) {
                pattern[i] = random.nextInt(3) - 1;
            }
            long wild = random.nextInt(4) - 1;
            ConvolutionBench c = new ConvolutionBench();
            Bench.fill(c, 0, random.nextInt(4), text);
            Bench.fill(c, 1, random.nextInt(4), pattern);
            int[] fits = new int[64];
            int count = 0;
            for (int k = 0; k <= n - m; k++) {
                int bad = 0;
                for (int i = 0; i < m; i++) {
                    if (text[k + i] != pattern[i] && text[k + i] != wild && pattern[i] != wild) {
                        bad++;
                    }
                }
                if (bad == 0) {
                    fits[count++] = k;
                }
            }
            Check.due("match", c.match(0, 1, wild), count);
            Bench.dueFits("match", c, java.util.Arrays.copyOf(fits, count));
        }
    }

    private static void matchRefused() {
        ConvolutionBench b = new ConvolutionBench();
        Bench.fill(b, 0, Bench.BYTES, 1, 2, 1);
        Bench.fill(b, 1, Bench.INTS, 1);
        Bench.fill(b, 2, Bench.DOUBLES, 1);
        b.match(0, 1, 0);
        Bench.dueFault("match(2, 1, 0)", b, b.match(2, 1, 0), Bench.CAST, 2);
        Bench.dueFault("match(12, 1, 0)", b, b.match(12, 1, 0), -1, 0);
        Bench.dueFault("match(0, 2, 0)", b, b.match(0, 2, 0), Bench.CAST, 2);
        Bench.dueFault("match(0, -1, 0)", b, b.match(0, -1, 0), -1, 0);
        Bench.dueFault("match(2, 9, 0)", b, b.match(2, 9, 0), Bench.NULL, 1);
        Bench.dueFault("match(9, 2, 0)", b, b.match(9, 2, 0), Bench.NULL, 1);
        Bench.dueFits("what refusals leave", b, 0, 2);
    }

    private static void matchAt() {
        ConvolutionBench b = new ConvolutionBench();
        Check.due("matchAt(0)", b.matchAt(0), -9);
        Bench.fill(b, 0, Bench.BYTES, 5, 7, 7);
        Bench.fill(b, 1, Bench.BYTES, 7);
        b.match(0, 1, 99);
        b.at(9, 0);
        Check.due("matchAt(0)", b.matchAt(0), 1);
        Check.due("matchAt(1)", b.matchAt(1), 2);
        Check.due("matchAt(2)", b.matchAt(2), -9);
        Check.due("matchAt(-1)", b.matchAt(-1), -9);
        Check.due("matchAt(MAX)", b.matchAt(Integer.MAX_VALUE), -9);
        Check.due("fault() behind matchAt", b.fault(), 1);
    }

    private static double[] productOf(double[] x, double[] y) {
        double[] sums = new double[x.length + y.length - 1];
        for (int k = 0; k < sums.length; k++) {
            double sum = 0.0;
            for (int i = 0; i < x.length; i++) {
                if (k - i >= 0 && k - i < y.length) {
                    double act = x[i] * y[k - i];
                    sum = sum + act;
                }
            }
            sums[k] = sum;
        }
        return sums;
    }

    private static void dueReal(String what, double[] x, double[] y) {
        ConvolutionBench b = new ConvolutionBench();
        Bench.fillDoubles(b, 0, x);
        Bench.fillDoubles(b, 1, y);
        Bench.dueFault(what, b, b.real(0, 1), x.length + y.length - 1, 0);
        Bench.dueReals(what, b, productOf(x, y));
    }

    private static void real() {
        dueReal("halves", new double[] {0.5, 0.25, -3}, new double[] {1, 2});
        dueReal("tenths", new double[] {0.1, 0.2, 0.3}, new double[] {0.1, 0.7, 1e-3, 1.1});
        ConvolutionBench b = new ConvolutionBench();
        Bench.fillDoubles(b, 0, 0.1);
        Bench.fillDoubles(b, 1, 0.2, 3.0);
        Check.due("real(0, 1)", b.real(0, 1), 2);
        Bench.dueReals("rounded", b, 0.020000000000000004, 0.30000000000000004);
        // Rising i: 1e16 + 1 + 1 is rounded twice, 1 + 1 + 1e16 is not.
        Bench.fillDoubles(b, 0, 1e16, 1, 1);
        Bench.fillDoubles(b, 1, 1, 1, 1);
        b.real(0, 1);
        Check.due("rising order", b.realAt(2), Double.doubleToLongBits(1e16));
        b.reverse(0);
        b.real(0, 1);
        Check.due("rising order", b.realAt(2), Double.doubleToLongBits(1e16 + 2));
        // A fused act would leave what the rounding of the product takes.
        double u = 1 + Math.ulp(1.0);
        dueReal("each act by itself", new double[] {-1, u}, new double[] {u, 1 + 2 * Math.ulp(1.0)});
    }

    private static void realOfWholes() {
        ConvolutionBench b = new ConvolutionBench();
        Bench.fill(b, 0, Bench.LONGS, Long.MAX_VALUE, (1L << 53) + 1, Long.MIN_VALUE, (1L << 54) + 6);
        Bench.fill(b, 1, Bench.BYTES, 1);
        Bench.dueFault("real(0, 1)", b, b.real(0, 1), 4, 0);
        Bench.dueReals("longs, cast", b, 0x1p63, 0x1p53, -0x1p63, 0x1p54 + 8);
        Bench.fill(b, 2, Bench.SHORTS, -32768, 3);
        Bench.fill(b, 3, Bench.INTS, Integer.MIN_VALUE);
        Bench.fillDoubles(b, 4, 0.1);
        Check.due("real(2, 4)", b.real(2, 4), 2);
        Bench.dueReals("shorts by doubles", b, -32768 * 0.1, 3 * 0.1);
        Check.due("real(4, 3)", b.real(4, 3), 1);
        Bench.dueReals("doubles by ints", b, -2147483648.0 * 0.1);
        // A cast is no reading of bits.
        Bench.fill(b, 5, Bench.LONGS, 0x7ff8000000000000L);
        Check.due("real(5, 1)", b.real(5, 1), 1);
        Bench.dueReals("a long like the bits of no number", b, (double) 0x7ff8000000000000L);
    }

    private static void realEdges() {
        double[] all = {0.0, -0.0, 1, -1, Double.MIN_VALUE, -Double.MIN_VALUE, Double.MIN_NORMAL, Double.MAX_VALUE,
            -Double.MAX_VALUE, INF, -INF, Double.NaN, 0.5, 1.5, Math.nextDown(Double.MIN_NORMAL), 0x1p-537, 0x1p-538,
            0x1p512, -0x1p511, Math.nextUp(1.0), Math.nextDown(1.0), 0x1p52, 0x1p53, 0x1p-1022, 0x1p-1023, 0x1p1023, 3e-310};
        double[] one = {1.0};
        for (double u : all) {
            for (double v : all) {
                dueReal(u + " by " + v, new double[] {u}, new double[] {v});
                dueReal(u + " and " + v, new double[] {u, v}, new double[] {1, 1});
                dueReal(u + " less " + v, new double[] {u, v}, new double[] {-1, 1});
            }
            dueReal(u + " alone", new double[] {u}, one);
        }
        dueReal("a no-number spreads where it is met", new double[] {1, Double.NaN, 2}, new double[] {1, 2, 3, 4});
        dueReal("an infinite one by 0", new double[] {INF, 1}, new double[] {0, 1});
        ConvolutionBench b = new ConvolutionBench();
        Bench.fillDoubles(b, 0, -0.0);
        Bench.fillDoubles(b, 1, 1.0);
        b.real(0, 1);
        Check.due("a sum from 0.0 on", b.realAt(0), 0);
        Check.due("-0.0 as it is told", b.at(0, 0), Long.MIN_VALUE);
        // From where there is none: what comes behind does not mend it.
        Bench.fillDoubles(b, 0, INF, -INF, 1);
        Bench.fillDoubles(b, 1, 1, 1, 1);
        Check.due("real(0, 1)", b.real(0, 1), 5);
        Bench.dueReals("infinite ones that meet", b, INF, Double.NaN, Double.NaN, -INF, 1);
        // All powers of two that there are, there and back.
        for (int e = -1074; e <= 1023; e += 40) {
            double[] powers = new double[40];
            for (int i = 0; i < powers.length; i++) {
                powers[i] = Math.scalb(i % 2 == 0 ? 1.0 : -1.75, Math.min(e + i, 1023));
            }
            dueReal("powers of two", powers, one);
        }
    }

    private static void realRandom() {
        Random random = new Random(33);
        for (int round = 0; round < 400; round++) {
            double[][] rows = new double[2][];
            for (int r = 0; r < 2; r++) {
                rows[r] = new double[round < 4 ? 64 : 1 + random.nextInt(round % 10 == 0 ? 64 : 12)];
                for (int i = 0; i < rows[r].length; i++) {
                    rows[r][i] = randomDouble(random, round % 4);
                }
            }
            dueReal("random rows", rows[0], rows[1]);
        }
    }

    private static double randomDouble(Random random, int style) {
        switch (style) {
            case 0:
                return Double.longBitsToDouble(random.nextLong());
            case 1:
                return random.nextGaussian();
            case 2:
                return Math.scalb(random.nextDouble() - 0.5, -500 - random.nextInt(60));
            default:
                return random.nextInt(12) == 0 ? INF : Math.scalb(random.nextDouble() - 0.5, 480 + random.nextInt(60));
        }
    }

    private static void realRefused() {
        ConvolutionBench b = new ConvolutionBench();
        Check.due("realAt(0)", b.realAt(0), Bench.NAN);
        Bench.fillDoubles(b, 0, 2, 3);
        b.real(0, 0);
        Bench.dueFault("real(9, 0)", b, b.real(9, 0), Bench.NULL, 1);
        Bench.dueFault("real(12, 9)", b, b.real(12, 9), -1, 0);
        Bench.dueFault("real(0, 9)", b, b.real(0, 9), Bench.NULL, 1);
        Bench.dueFault("real(0, -1)", b, b.real(0, -1), -1, 0);
        b.at(9, 0);
        Bench.dueReals("what refusals leave", b, 4, 12, 9);
        Check.due("realAt(MIN)", b.realAt(Integer.MIN_VALUE), Bench.NAN);
        Check.due("fault() behind realAt", b.fault(), 1);
        Bench.fillDoubles(b, 0, 0.5);
        b.real(0, 0);
        Bench.dueReals("fewer than before", b, 0.25);
    }
}
