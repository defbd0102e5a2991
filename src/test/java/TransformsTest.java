import java.math.BigInteger;
import java.util.Random;

/** Promises 10 to 14: root, transform, times, value, inverse. */
public final class TransformsTest {
    public static void main(String[] args) {
        root();
        transform();
        times();
        value();
        inverse();
        Check.end();
    }

    private static BigInteger rootOf(int prime, int n) {
        BigInteger p = BigInteger.valueOf(Bench.PRIMES[prime]);
        return BigInteger.valueOf(3).modPow(BigInteger.valueOf((Bench.PRIMES[prime] - 1) / n), p);
    }

    private static long[] transformOf(int prime, long[] x) {
        BigInteger p = BigInteger.valueOf(Bench.PRIMES[prime]);
        BigInteger w = rootOf(prime, x.length);
        long[] values = new long[x.length];
        for (int j = 0; j < x.length; j++) {
            BigInteger sum = BigInteger.ZERO;
            for (int i = 0; i < x.length; i++) {
                sum = sum.add(BigInteger.valueOf(x[i]).multiply(w.modPow(BigInteger.valueOf((long) i * j), p)));
            }
            values[j] = sum.mod(p).longValue();
        }
        return values;
    }

    private static void root() {
        ConvolutionBench b = new ConvolutionBench();
        for (int prime = 0; prime < 3; prime++) {
            for (int n = 1; n <= 64; n++) {
                boolean divides = (Bench.PRIMES[prime] - 1) % n == 0;
                long want = divides ? rootOf(prime, n).longValue() : 0;
                Bench.dueFault("root(" + prime + ", " + n + ")", b, b.root(prime, n), want, divides ? 0 : 5);
            }
            b.root(0, 3);
            Bench.dueFault("root(" + prime + ", 0)", b, b.root(prime, 0), 0, 0);
            b.root(0, 3);
            Bench.dueFault("root(" + prime + ", 65)", b, b.root(prime, 65), 0, 0);
            b.root(0, 3);
            Bench.dueFault("root(" + prime + ", -1)", b, b.root(prime, -1), 0, 0);
        }
        b.root(0, 3);
        Bench.dueFault("root(3, 3)", b, b.root(3, 3), 0, 0);
        b.root(0, 3);
        Bench.dueFault("root(-1, 1)", b, b.root(-1, 1), 0, 0);
    }

    private static void transform() {
        ConvolutionBench b = new ConvolutionBench();
        Random random = new Random(11);
        for (int prime = 0; prime < 3; prime++) {
            for (int n = 1; n <= 64; n++) {
                long[] x = new long[n];
                for (int i = 0; i < n; i++) {
                    x[i] = random.nextLong();
                }
                x[0] = Long.MIN_VALUE;
                ConvolutionBench fresh = new ConvolutionBench();
                Bench.fill(fresh, 0, Bench.LONGS, x);
                String call = "transform(0, " + prime + ") of " + n;
                if ((Bench.PRIMES[prime] - 1) % n == 0) {
                    Bench.dueFault(call, fresh, fresh.transform(0, prime), n, 0);
                    Bench.dueSpectrum(call, fresh, transformOf(prime, x));
                    Check.due("told(1)", fresh.told(1), prime);
                } else {
                    Bench.dueFault(call, fresh, fresh.transform(0, prime), -3, 0);
                    Check.due("told(0)", fresh.told(0), 0);
                    Check.due("told(1)", fresh.told(1), -9);
                }
            }
        }
        Bench.fill(b, 0, Bench.BYTES, -1, 2);
        Bench.fill(b, 1, Bench.DOUBLES, 1, 2, 3);
        Bench.fill(b, 2, Bench.SHORTS, 1, 2, 3);
        Check.due("transform(0, 2)", b.transform(0, 2), 2);
        Bench.dueFault("transform(1, 0)", b, b.transform(1, 0), Bench.CAST, 2);
        Bench.dueFault("transform(2, 0)", b, b.transform(2, 0), -3, 0);
        Bench.dueFault("transform(3, 0)", b, b.transform(3, 0), Bench.NULL, 1);
        Bench.dueFault("transform(3, 3)", b, b.transform(3, 3), -1, 0);
        Bench.dueFault("transform(3, -1)", b, b.transform(3, -1), -1, 0);
        Bench.dueFault("transform(12, 0)", b, b.transform(12, 0), -1, 0);
        Bench.dueSpectrum("what refusals leave", b, 1, 469762046);
        Check.due("told(1)", b.told(1), 2);
    }

    private static void times() {
        ConvolutionBench b = new ConvolutionBench();
        long[] x = {3, -4, 5, 1L << 40, 0, 0, 7, -9};
        long[] y = {-1, 100, 0, 0, 0, 6, 7, 8};
        Bench.fill(b, 0, Bench.LONGS, x);
        Bench.fill(b, 1, Bench.BYTES, y);
        Bench.fill(b, 2, Bench.DOUBLES, y);
        Bench.fill(b, 3, Bench.SHORTS, 1, 2);
        Bench.dueFault("times(1)", b, b.times(1), -3, 0);
        Bench.dueFault("times(2)", b, b.times(2), Bench.CAST, 2);
        for (int prime = 0; prime < 3; prime++) {
            long p = Bench.PRIMES[prime];
            b.transform(0, prime);
            Bench.dueFault("times(1)", b, b.times(1), 8, 0);
            long[] u = transformOf(prime, x);
            long[] v = transformOf(prime, y);
            long[] want = new long[8];
            for (int j = 0; j < 8; j++) {
                want[j] = u[j] * v[j] % p;
            }
            Bench.dueSpectrum("times over " + p, b, want);
            Bench.dueFault("times(3)", b, b.times(3), -3, 0);
            Bench.dueFault("times(2)", b, b.times(2), Bench.CAST, 2);
            Bench.dueFault("times(4)", b, b.times(4), Bench.NULL, 1);
            Bench.dueFault("times(12)", b, b.times(12), -1, 0);
            Bench.dueSpectrum("what refusals leave", b, want);
            Check.due("told(1)", b.told(1), prime);
        }
        b.row(5, Bench.BYTES, 64);
        b.put(5, 0, 3);
        b.transform(5, 0);
        Check.due("times(5) of 64", b.times(5), 64);
        long[] nines = new long[64];
        java.util.Arrays.fill(nines, 9);
        Bench.dueSpectrum("of 64", b, nines);
    }

    private static void value() {
        ConvolutionBench b = new ConvolutionBench();
        Check.due("value(0)", b.value(0), -1);
        Bench.fill(b, 0, Bench.INTS, 5, 7);
        b.transform(0, 0);
        b.at(9, 0);
        Check.due("value(0)", b.value(0), 12);
        Check.due("value(1)", b.value(1), 998244351);
        Check.due("value(2)", b.value(2), -1);
        Check.due("value(-1)", b.value(-1), -1);
        Check.due("value(MAX)", b.value(Integer.MAX_VALUE), -1);
        Check.due("fault() behind value", b.fault(), 1);
        Bench.fill(b, 0, Bench.INTS, 9);
        b.transform(0, 0);
        Bench.dueSpectrum("a shorter spectrum", b, 9);
    }

    private static void inverse() {
        ConvolutionBench b = new ConvolutionBench();
        Bench.fill(b, 5, Bench.INTS, 9, 9);
        Check.due("inverse(5)", b.inverse(5), -3);
        Bench.dueRow("what a refusal leaves", b, 5, Bench.INTS, 9, 9);
        Check.due("inverse(12)", b.inverse(12), -1);
        int[] lengths = {1, 2, 4, 7, 14, 16, 28, 32, 56, 64};
        for (int prime = 0; prime < 3; prime++) {
            long p = Bench.PRIMES[prime];
            for (int n : lengths) {
                if ((p - 1) % n != 0) {
                    continue;
                }
                ConvolutionBench c = new ConvolutionBench();
                long[] x = new long[n];
                long[] want = new long[n];
                for (int i = 0; i < n; i++) {
                    x[i] = (i - n / 2) * 0x123456789abcdL;
                    want[i] = Math.floorMod(x[i], p);
                }
                Bench.fill(c, 0, Bench.LONGS, x);
                c.share(1, 0);
                c.transform(0, prime);
                c.at(9, 0);
                Check.due("inverse(0)", c.inverse(0), n);
                Check.due("fault() behind inverse", c.fault(), 1);
                Bench.dueRow("there and back", c, 0, Bench.LONGS, want);
                Bench.dueRow("the row that was there", c, 1, Bench.LONGS, x);
                Check.due("told(0)", c.told(0), n);
                Check.due("inverse(-1)", c.inverse(-1), -1);
            }
        }
    }
}
