import java.math.BigInteger;
import java.util.Random;

/** Promises 15 to 23: multiply, circular, correlate, slide, high, low, carry, cost, plan. */
public final class ExactProductsTest {
    private static final BigInteger WORD = BigInteger.ONE.shiftLeft(64);

    public static void main(String[] args) {
        multiply();
        multiplyRefused();
        onePrimeLimit();
        circular();
        correlate();
        slide();
        highAndLow();
        carry();
        carryEdges();
        carryOfLongOnes();
        cost();
        plan();
        Check.end();
    }

    private static BigInteger entry(ConvolutionBench b, int i) {
        return BigInteger.valueOf(b.high(i)).multiply(WORD).add(BigInteger.valueOf(b.low(i)).mod(WORD));
    }

    private static void dueEntries(String what, ConvolutionBench b, BigInteger[] want) {
        Check.due(what + " count", b.told(2), want.length);
        for (int i = 0; i < want.length; i++) {
            Check.due(what + " entry " + i, entry(b, i), want[i]);
        }
        Check.due(what + " high behind", b.high(want.length), 0);
        Check.due(what + " low behind", b.low(want.length), 0);
    }

    private static BigInteger[] zeros(int n) {
        BigInteger[] row = new BigInteger[n];
        for (int i = 0; i < n; i++) {
            row[i] = BigInteger.ZERO;
        }
        return row;
    }

    private static BigInteger product(long u, long v) {
        return BigInteger.valueOf(u).multiply(BigInteger.valueOf(v));
    }

    private static BigInteger[] productOf(long[] x, long[] y) {
        BigInteger[] sums = zeros(x.length + y.length - 1);
        for (int i = 0; i < x.length; i++) {
            for (int j = 0; j < y.length; j++) {
                sums[i + j] = sums[i + j].add(product(x[i], y[j]));
            }
        }
        return sums;
    }

    private static long[] randomInts(Random random, int n) {
        long[] row = new long[n];
        for (int i = 0; i < n; i++) {
            row[i] = random.nextInt(4) == 0 ? Integer.MIN_VALUE : random.nextInt();
        }
        return row;
    }

    private static long[] same(int n, long v) {
        long[] row = new long[n];
        java.util.Arrays.fill(row, v);
        return row;
    }

    private static void dueProductBy(int way, long[] x, long[] y) {
        ConvolutionBench b = new ConvolutionBench();
        Bench.fill(b, 0, Bench.INTS, x);
        Bench.fill(b, 1, Bench.INTS, y);
        Bench.dueFault("multiply by way " + way, b, b.multiply(0, 1, way), x.length + y.length - 1, 0);
        dueEntries("by way " + way, b, productOf(x, y));
    }

    private static void multiply() {
        Random random = new Random(5);
        for (int round = 0; round < 300; round++) {
            long[] x = randomInts(random, 1 + random.nextInt(64));
            long[] y = randomInts(random, 1 + random.nextInt(64));
            dueProductBy(0, x, y);
            dueProductBy(2, x, y);
        }
        long[] least = same(64, Integer.MIN_VALUE);
        long[] most = same(64, Integer.MAX_VALUE);
        long[][] pairs = {least, most};
        for (long[] x : pairs) {
            for (long[] y : pairs) {
                dueProductBy(0, x, y);
                dueProductBy(2, x, y);
            }
        }
        ConvolutionBench b = new ConvolutionBench();
        Bench.fill(b, 0, Bench.BYTES, -128, 127, 5);
        Bench.fill(b, 1, Bench.SHORTS, -300, 7);
        for (int way = 0; way <= 2; way++) {
            Bench.dueFault("multiply(0, 1, " + way + ")", b, b.multiply(0, 1, way), 4, 0);
            Bench.dueProduct("by way " + way, b, 38400, -38996, -611, 35);
            Check.due("multiply(0, 0, " + way + ")", b.multiply(0, 0, way), 5);
            Bench.dueProduct("of one row", b, 16384, -32512, 14849, 1270, 25);
        }
    }

    private static void multiplyRefused() {
        ConvolutionBench b = new ConvolutionBench();
        Bench.fill(b, 0, Bench.INTS, 2, 3);
        Bench.fill(b, 1, Bench.LONGS, 1);
        Bench.fill(b, 2, Bench.DOUBLES, 1);
        Bench.fill(b, 3, Bench.INTS, 1 << 30);
        b.multiply(0, 0, 0);
        Bench.dueFault("multiply(12, 0, 3)", b, b.multiply(12, 0, 3), -1, 0);
        Bench.dueFault("multiply(9, 1, 0)", b, b.multiply(9, 1, 0), Bench.NULL, 1);
        Bench.dueFault("multiply(0, -1, 0)", b, b.multiply(0, -1, 0), -1, 0);
        Bench.dueFault("multiply(1, 9, 0)", b, b.multiply(1, 9, 0), Bench.NULL, 1);
        Bench.dueFault("multiply(9, 9, 3)", b, b.multiply(9, 9, 3), -2, 0);
        Bench.dueFault("multiply(1, 0, 0)", b, b.multiply(1, 0, 0), Bench.CAST, 2);
        Bench.dueFault("multiply(0, 0, -1)", b, b.multiply(0, 0, -1), -2, 0);
        Bench.dueFault("multiply(0, 2, 1)", b, b.multiply(0, 2, 1), Bench.CAST, 2);
        Bench.dueFault("multiply(3, 3, 1)", b, b.multiply(3, 3, 1), -3, 0);
        Bench.dueProduct("what refusals leave", b, 4, 12, 9);
    }

    private static void onePrimeLimit() {
        // 998244353 = 2 * 499122176 + 1, and 499122176 = 238 * 2097152.
        ConvolutionBench b = new ConvolutionBench();
        Bench.fill(b, 0, Bench.INTS, 2097152);
        Bench.fill(b, 1, Bench.INTS, -238);
        Check.due("just below the limit", b.multiply(0, 1, 1), 1);
        Bench.dueProduct("just below the limit", b, -499122176);
        Bench.fill(b, 1, Bench.INTS, 238);
        Check.due("just below the limit", b.multiply(0, 1, 1), 1);
        Bench.dueProduct("just below the limit", b, 499122176);
        Bench.fill(b, 0, Bench.INTS, 499122177);
        Bench.fill(b, 1, Bench.INTS, -1);
        Check.due("just above the limit", b.multiply(0, 1, 1), -3);
        Check.due("just above the limit", b.multiply(1, 0, 1), -3);
        Bench.fill(b, 0, Bench.INTS, 249561088, 0, -249561088);
        Bench.fill(b, 1, Bench.INTS, -1, 1);
        Check.due("two entries, below", b.multiply(0, 1, 1), 4);
        Bench.dueProduct("two entries, below", b, -249561088, 249561088, 249561088, -249561088);
        Bench.fill(b, 0, Bench.INTS, 249561089, 0, 0);
        Check.due("two entries, above", b.multiply(0, 1, 1), -3);
        Check.due("two entries, above", b.multiply(1, 0, 1), -3);
        Bench.fill(b, 0, Bench.INTS, same(64, Integer.MIN_VALUE));
        Check.due("far above, where a long would run over", b.multiply(0, 0, 1), -3);
        Bench.fill(b, 1, Bench.BYTES, 0, 0);
        Check.due("one row of 0s", b.multiply(0, 1, 1), 65);
        Bench.dueProduct("one row of 0s", b, new long[65]);
        Random random = new Random(6);
        for (int round = 0; round < 200; round++) {
            long[] x = new long[round == 0 ? 64 : 1 + random.nextInt(64)];
            long[] y = new long[round == 0 ? 64 : 1 + random.nextInt(64)];
            for (int i = 0; i < x.length; i++) {
                x[i] = random.nextInt(5001) - 2500;
            }
            for (int i = 0; i < y.length; i++) {
                y[i] = random.nextInt(5001) - 2500;
            }
            ConvolutionBench c = new ConvolutionBench();
            Bench.fill(c, 0, Bench.SHORTS, x);
            Bench.fill(c, 1, Bench.INTS, y);
            Check.due("by one prime", c.multiply(0, 1, 1), x.length + y.length - 1);
            dueEntries("by one prime", c, productOf(x, y));
        }
    }

    private static void circular() {
        Random random = new Random(7);
        for (int round = 0; round < 200; round++) {
            long[] x = randomInts(random, 1 + random.nextInt(64));
            long[] y = randomInts(random, 1 + random.nextInt(64));
            int n = 1 + random.nextInt(64);
            BigInteger[] want = zeros(n);
            for (int j = 0; j < x.length; j++) {
                for (int k = 0; k < y.length; k++) {
                    int i = (j + k) % n;
                    want[i] = want[i].add(product(x[j], y[k]));
                }
            }
            ConvolutionBench b = new ConvolutionBench();
            Bench.fill(b, 0, Bench.INTS, x);
            Bench.fill(b, 1, Bench.INTS, y);
            Bench.dueFault("circular(0, 1, " + n + ")", b, b.circular(0, 1, n), n, 0);
            dueEntries("circular of " + n, b, want);
        }
        ConvolutionBench b = new ConvolutionBench();
        Bench.fill(b, 0, Bench.INTS, same(64, Integer.MIN_VALUE));
        Check.due("circular(0, 0, 1)", b.circular(0, 0, 1), 1);
        dueEntries("the greatest sum", b, new BigInteger[] {BigInteger.ONE.shiftLeft(74)});
        Bench.fill(b, 1, Bench.LONGS, 1);
        Bench.fill(b, 2, Bench.DOUBLES, 1);
        Bench.dueFault("circular(9, 0, 1)", b, b.circular(9, 0, 1), Bench.NULL, 1);
        Bench.dueFault("circular(0, 12, 0)", b, b.circular(0, 12, 0), -1, 0);
        Bench.dueFault("circular(0, 1, 1)", b, b.circular(0, 1, 1), Bench.CAST, 2);
        Bench.dueFault("circular(9, 0, 0)", b, b.circular(9, 0, 0), -2, 0);
        Bench.dueFault("circular(2, 0, 1)", b, b.circular(2, 0, 1), Bench.CAST, 2);
        Bench.dueFault("circular(0, 0, 65)", b, b.circular(0, 0, 65), -2, 0);
        Bench.dueFault("circular(2, 9, 1)", b, b.circular(2, 9, 1), Bench.NULL, 1);
        dueEntries("what refusals leave", b, new BigInteger[] {BigInteger.ONE.shiftLeft(74)});
    }

    private static void correlate() {
        ConvolutionBench b = new ConvolutionBench();
        Bench.fill(b, 0, Bench.BYTES, 1, 2, 3);
        Bench.fill(b, 1, Bench.SHORTS, 10, 100);
        Bench.dueFault("correlate(0, 1)", b, b.correlate(0, 1), 4, 0);
        Bench.dueProduct("correlate(0, 1)", b, 100, 210, 320, 30);
        Check.due("correlate(1, 0)", b.correlate(1, 0), 4);
        Bench.dueProduct("correlate(1, 0)", b, 30, 320, 210, 100);
        Random random = new Random(8);
        for (int round = 0; round < 100; round++) {
            long[] x = randomInts(random, 1 + random.nextInt(64));
            long[] y = randomInts(random, 1 + random.nextInt(64));
            int m = y.length;
            BigInteger[] want = zeros(x.length + m - 1);
            for (int i = 0; i < want.length; i++) {
                for (int j = 0; j < m; j++) {
                    int at = j + i - (m - 1);
                    if (at >= 0 && at < x.length) {
                        want[i] = want[i].add(product(x[at], y[j]));
                    }
                }
            }
            ConvolutionBench c = new ConvolutionBench();
            Bench.fill(c, 0, Bench.INTS, x);
            Bench.fill(c, 1, Bench.INTS, y);
            Check.due("correlate", c.correlate(0, 1), want.length);
            dueEntries("correlate", c, want);
        }
        Bench.fill(b, 2, Bench.LONGS, 1);
        Bench.fill(b, 3, Bench.DOUBLES, 1);
        Bench.dueFault("correlate(0, 2)", b, b.correlate(0, 2), Bench.CAST, 2);
        Bench.dueFault("correlate(0, 12)", b, b.correlate(0, 12), -1, 0);
        Bench.dueFault("correlate(3, 0)", b, b.correlate(3, 0), Bench.CAST, 2);
        Bench.dueFault("correlate(3, 9)", b, b.correlate(3, 9), Bench.NULL, 1);
        Bench.dueFault("correlate(-1, 9)", b, b.correlate(-1, 9), -1, 0);
        Bench.dueProduct("what refusals leave", b, 30, 320, 210, 100);
    }

    private static void slide() {
        Random random = new Random(9);
        for (int round = 0; round < 100; round++) {
            long[] x = new long[1 + random.nextInt(64)];
            for (int i = 0; i < x.length; i++) {
                x[i] = random.nextInt(3) == 0 ? Long.MIN_VALUE : random.nextInt(3) == 0 ? Long.MAX_VALUE : random.nextLong();
            }
            for (int w = 1; w <= 64; w += 1 + random.nextInt(9)) {
                ConvolutionBench b = new ConvolutionBench();
                Bench.fill(b, 0, Bench.LONGS, x);
                BigInteger[] want = zeros(Math.max(0, x.length - w + 1));
                for (int i = 0; i < want.length; i++) {
                    for (int j = 0; j < w; j++) {
                        want[i] = want[i].add(BigInteger.valueOf(x[i + j]));
                    }
                }
                Bench.dueFault("slide(0, " + w + ")", b, b.slide(0, w), want.length, 0);
                dueEntries("slide " + w, b, want);
            }
        }
        ConvolutionBench b = new ConvolutionBench();
        Bench.fill(b, 0, Bench.BYTES, 1, -2, 3);
        Bench.fill(b, 1, Bench.DOUBLES, 1, 2, 3);
        Check.due("slide(0, 2)", b.slide(0, 2), 2);
        Bench.dueFault("slide(1, 1)", b, b.slide(1, 1), Bench.CAST, 2);
        Bench.dueFault("slide(9, 0)", b, b.slide(9, 0), -2, 0);
        Bench.dueFault("slide(9, 1)", b, b.slide(9, 1), Bench.NULL, 1);
        Bench.dueFault("slide(12, 0)", b, b.slide(12, 0), -1, 0);
        Bench.dueFault("slide(0, 65)", b, b.slide(0, 65), -2, 0);
        Bench.dueProduct("what refusals leave", b, -1, 1);
        Check.due("slide(0, 4)", b.slide(0, 4), 0);
        Bench.dueProduct("none", b);
    }

    private static void highAndLow() {
        ConvolutionBench b = new ConvolutionBench();
        Bench.fill(b, 0, Bench.LONGS, Long.MAX_VALUE, Long.MAX_VALUE, Long.MAX_VALUE);
        Bench.fill(b, 1, Bench.LONGS, Long.MIN_VALUE, Long.MIN_VALUE, Long.MIN_VALUE);
        b.slide(0, 3);
        b.at(9, 0);
        Check.due("high(0)", b.high(0), 1);
        Check.due("low(0)", b.low(0), Long.MAX_VALUE - 2);
        b.slide(1, 3);
        Check.due("high(0)", b.high(0), -2);
        Check.due("low(0)", b.low(0), Long.MIN_VALUE);
        b.slide(1, 2);
        Check.due("high(1)", b.high(1), -1);
        Check.due("low(1)", b.low(1), 0);
        Check.due("high(2)", b.high(2), 0);
        Check.due("high(-1)", b.high(-1), 0);
        Check.due("low(2)", b.low(2), 0);
        Check.due("low(-1)", b.low(-1), 0);
        b.at(9, 0);
        b.high(0);
        b.low(9);
        Check.due("fault() behind high, low", b.fault(), 1);
    }

    private static void dueDigits(ConvolutionBench b, int base, BigInteger number) {
        BigInteger to = BigInteger.valueOf(base);
        StringBuilder told = new StringBuilder();
        int count = 0;
        BigInteger left = number;
        do {
            told.append(left.mod(to)).append(' ');
            left = left.divide(to);
            count++;
        } while (left.signum() != 0);
        Bench.fill(b, 7, Bench.BYTES, 1, 2, 3);
        if (count > 64) {
            Check.due("carry(7, " + base + ") of " + number, b.carry(7, base), -4);
            Bench.dueRow("what FULL leaves", b, 7, Bench.BYTES, 1, 2, 3);
            return;
        }
        Check.due("carry(7, " + base + ") of " + number, b.carry(7, base), count);
        Check.due("lane of digits", b.kind(7, 0), Bench.INTS);
        Check.due("count of digits", b.kind(7, 1), count);
        StringBuilder met = new StringBuilder();
        for (int i = 0; i < count; i++) {
            met.append(b.at(7, i)).append(' ');
        }
        Check.due("digits to base " + base, met.toString(), told.toString());
    }

    private static void carry() {
        Random random = new Random(10);
        int[] bases = {2, 3, 10, 16, 255, 256, 9999, 10000};
        for (int round = 0; round < 200; round++) {
            int n = 1 + random.nextInt(random.nextBoolean() ? 6 : 40);
            long[] x = new long[n];
            for (int i = 0; i < n; i++) {
                x[i] = random.nextInt(3) == 0 ? 0 : random.nextInt(Integer.MAX_VALUE) >> random.nextInt(31);
            }
            for (int base : bases) {
                ConvolutionBench b = new ConvolutionBench();
                Bench.fill(b, 0, Bench.INTS, x);
                b.multiply(0, 0, 0);
                BigInteger number = BigInteger.ZERO;
                BigInteger[] entries = productOf(x, x);
                for (int k = entries.length - 1; k >= 0; k--) {
                    number = number.multiply(BigInteger.valueOf(base)).add(entries[k]);
                }
                dueDigits(b, base, number);
                dueEntries("the product behind carry", b, entries);
            }
        }
    }

    private static void carryEdges() {
        ConvolutionBench b = new ConvolutionBench();
        Bench.fill(b, 7, Bench.BYTES, 4);
        Check.due("carry(12, 1)", b.carry(12, 1), -1);
        Check.due("carry(-1, 10)", b.carry(-1, 10), -1);
        Check.due("carry(7, 1)", b.carry(7, 1), -2);
        Check.due("carry(7, 10001)", b.carry(7, 10001), -2);
        Check.due("carry(7, 0)", b.carry(7, 0), -2);
        Check.due("carry(7, 10)", b.carry(7, 10), -3);
        Bench.dueRow("what refusals leave", b, 7, Bench.BYTES, 4);
        Bench.fill(b, 0, Bench.INTS, 9, 9, 9);
        b.slide(0, 1);
        b.at(11, 0);
        Check.due("carry(0, 10)", b.carry(0, 10), 3);
        Check.due("fault() behind carry", b.fault(), 1);
        Bench.fill(b, 0, Bench.INTS, 100, -1);
        b.slide(0, 1);
        Check.due("one below 0", b.carry(0, 10), -3);
        Bench.fill(b, 0, Bench.LONGS, new long[64]);
        b.slide(0, 1);
        dueDigits(b, 2, BigInteger.ZERO);
    }

    private static void carryOfLongOnes() {
        // A number of just 64 digits, and the next one, of 65.
        ConvolutionBench b = new ConvolutionBench();
        long[] ones = same(64, 1);
        Bench.fill(b, 0, Bench.LONGS, ones);
        b.slide(0, 1);
        dueDigits(b, 2, BigInteger.ONE.shiftLeft(64).subtract(BigInteger.ONE));
        ones[0] = 2;
        Bench.fill(b, 0, Bench.LONGS, ones);
        b.slide(0, 1);
        dueDigits(b, 2, BigInteger.ONE.shiftLeft(64));
        // 127 entries, but 0s from entry 1 on.
        long[] low = new long[64];
        low[0] = Integer.MIN_VALUE;
        Bench.fill(b, 0, Bench.INTS, low);
        b.multiply(0, 0, 2);
        dueDigits(b, 2, BigInteger.ONE.shiftLeft(62));
        // The greatest that there is.
        b = new ConvolutionBench();
        Bench.fill(b, 0, Bench.INTS, same(64, Integer.MIN_VALUE));
        b.circular(0, 0, 1);
        dueDigits(b, 10, BigInteger.ONE.shiftLeft(74));
        dueDigits(b, 10000, BigInteger.ONE.shiftLeft(74));
        dueDigits(b, 2, BigInteger.ONE.shiftLeft(74));
        b.multiply(0, 0, 0);
        Check.due("far more than 64 digits", b.carry(7, 2), -4);
        Check.due("far more than 64 digits", b.carry(7, 10000), -4);
    }

    private static void cost() {
        for (int n = 1; n <= 64; n++) {
            ConvolutionBench b = new ConvolutionBench();
            for (int m = 1; m <= 64; m++) {
                int l = 0;
                while (Math.pow(2, l) < n + m - 1) {
                    l++;
                }
                int length = (int) Math.pow(2, l);
                int one = 3 * length * l / 2 + 2 * length;
                Check.due("cost(0, n, m)", b.cost(0, n, m), n * m);
                Check.due("cost(1, n, m)", b.cost(1, n, m), one);
                Check.due("cost(2, n, m)", b.cost(2, n, m), 3 * one + 6 * (n + m - 1));
            }
        }
        ConvolutionBench b = new ConvolutionBench();
        b.at(0, 0);
        Check.due("cost(1, 1, 1)", b.cost(1, 1, 1), 2);
        Check.due("cost(2, 1, 1)", b.cost(2, 1, 1), 12);
        Check.due("cost(1, 2, 1)", b.cost(1, 2, 1), 7);
        Check.due("cost(1, 64, 64)", b.cost(1, 64, 64), 1600);
        Check.due("cost(3, 0, 1)", b.cost(3, 0, 1), -1);
        Check.due("cost(-1, 1, 1)", b.cost(-1, 1, 1), -1);
        for (int way = 0; way < 3; way++) {
            Check.due("cost(way, 0, 1)", b.cost(way, 0, 1), -2);
            Check.due("cost(way, 1, 0)", b.cost(way, 1, 0), -2);
            Check.due("cost(way, 65, 1)", b.cost(way, 65, 1), -2);
            Check.due("cost(way, 1, 65)", b.cost(way, 1, 65), -2);
            Check.due("cost(way, -1, -1)", b.cost(way, -1, -1), -2);
        }
        Check.due("fault() behind cost", b.fault(), 1);
    }

    private static void plan() {
        for (int n = 1; n <= 64; n++) {
            ConvolutionBench c = new ConvolutionBench();
            for (int m = 1; m <= 64; m++) {
                Check.due("plan(n, m)", c.plan(n, m), c.cost(2, n, m) < c.cost(0, n, m) ? 2 : 0);
            }
        }
        ConvolutionBench b = new ConvolutionBench();
        b.at(0, 0);
        Check.due("plan(0, 1)", b.plan(0, 1), -2);
        Check.due("plan(1, 0)", b.plan(1, 0), -2);
        Check.due("plan(65, 1)", b.plan(65, 1), -2);
        Check.due("plan(1, 65)", b.plan(1, 65), -2);
        Check.due("fault() behind plan", b.fault(), 1);
    }
}
