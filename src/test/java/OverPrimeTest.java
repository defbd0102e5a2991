import java.util.Random;

/** Promises 24 to 30: power, series, divide, evaluate, interpolate, residue, rest. */
public final class OverPrimeTest {
    public static void main(String[] args) {
        power();
        powerRefused();
        series();
        divide();
        divideEdges();
        evaluate();
        interpolate();
        interpolateRefused();
        residueAndRest();
        Check.end();
    }

    private static long[] random(Random random, int n) {
        long[] row = new long[n];
        for (int i = 0; i < n; i++) {
            row[i] = random.nextInt(4) == 0 ? random.nextInt(3) - 1 : random.nextLong();
        }
        return row;
    }

    private static long[] over(long p, long[] x) {
        long[] row = new long[x.length];
        for (int i = 0; i < x.length; i++) {
            row[i] = Math.floorMod(x[i], p);
        }
        return row;
    }

    /** The product over p, cut off behind n entries. */
    private static long[] cutProduct(long p, long[] x, long[] y, int n) {
        long[] sums = new long[n];
        for (int i = 0; i < x.length; i++) {
            for (int j = 0; j < y.length && i + j < n; j++) {
                sums[i + j] = (sums[i + j] + Math.floorMod(x[i], p) * Math.floorMod(y[j], p)) % p;
            }
        }
        return sums;
    }

    private static long[] residues(ConvolutionBench b) {
        long[] row = new long[b.told(3)];
        for (int i = 0; i < row.length; i++) {
            row[i] = b.residue(i);
        }
        return row;
    }

    private static long[] rests(ConvolutionBench b) {
        long[] row = new long[b.told(4)];
        for (int i = 0; i < row.length; i++) {
            row[i] = b.rest(i);
        }
        return row;
    }

    private static void power() {
        Random random = new Random(21);
        int[] exponents = {0, 1, 2, 3, 7, 10, 64, 999, 1000};
        for (int prime = 0; prime < 3; prime++) {
            long p = Bench.PRIMES[prime];
            for (int k : exponents) {
                long[] x = random(random, 1 + random.nextInt(64));
                int n = 1 + random.nextInt(64);
                long[] want = new long[n];
                want[0] = 1;
                for (int i = 0; i < k; i++) {
                    want = cutProduct(p, want, x, n);
                }
                ConvolutionBench b = new ConvolutionBench();
                Bench.fill(b, 0, Bench.LONGS, x);
                String call = "power(0, " + prime + ", " + k + ", " + n + ")";
                Bench.dueFault(call, b, b.power(0, prime, k, n), n, 0);
                Bench.dueResidues(call, b, want);
                Bench.dueRow("the row", b, 0, Bench.LONGS, x);
            }
        }
        ConvolutionBench b = new ConvolutionBench();
        Bench.fill(b, 0, Bench.BYTES, 0, 0);
        Check.due("0 to the 0", b.power(0, 1, 0, 3), 3);
        Bench.dueResidues("0 to the 0", b, 1, 0, 0);
        Check.due("0 to the 1", b.power(0, 1, 1, 2), 2);
        Bench.dueResidues("0 to the 1", b, 0, 0);
        Bench.fill(b, 0, Bench.BYTES, -1);
        Check.due("a shorter row", b.power(0, 2, 1, 3), 3);
        Bench.dueResidues("a shorter row", b, 469762048, 0, 0);
    }

    private static void powerRefused() {
        ConvolutionBench b = new ConvolutionBench();
        Bench.fill(b, 0, Bench.BYTES, 1, 1);
        Bench.fill(b, 1, Bench.DOUBLES, 1);
        b.power(0, 0, 2, 4);
        Bench.dueFault("power(9, 0, 1, 1)", b, b.power(9, 0, 1, 1), Bench.NULL, 1);
        Bench.dueFault("power(12, 0, -1, 0)", b, b.power(12, 0, -1, 0), -1, 0);
        Bench.dueFault("power(1, 0, 1, 1)", b, b.power(1, 0, 1, 1), Bench.CAST, 2);
        Bench.dueFault("power(9, 3, -1, 0)", b, b.power(9, 3, -1, 0), -1, 0);
        Bench.dueFault("power(1, 0, 0, 1)", b, b.power(1, 0, 0, 1), Bench.CAST, 2);
        Bench.dueFault("power(9, 0, 1001, 1)", b, b.power(9, 0, 1001, 1), -2, 0);
        Bench.dueFault("power(0, 0, -1, 1)", b, b.power(0, 0, -1, 1), -2, 0);
        Bench.dueFault("power(0, 0, 1, 0)", b, b.power(0, 0, 1, 0), -2, 0);
        Bench.dueFault("power(0, 0, 1, 65)", b, b.power(0, 0, 1, 65), -2, 0);
        Bench.dueResidues("what refusals leave", b, 1, 2, 1, 0);
    }

    private static void series() {
        Random random = new Random(22);
        for (int round = 0; round < 90; round++) {
            int prime = round % 3;
            long p = Bench.PRIMES[prime];
            long[] x = random(random, 1 + random.nextInt(64));
            x[0] = random.nextBoolean() ? -1 : 1 + random.nextInt(1000);
            int n = 1 + random.nextInt(64);
            ConvolutionBench b = new ConvolutionBench();
            Bench.fill(b, 0, Bench.LONGS, x);
            String call = "series(0, " + prime + ", " + n + ")";
            Bench.dueFault(call, b, b.series(0, prime, n), n, 0);
            long[] made = residues(b);
            Check.due(call + " count", made.length, n);
            long[] one = cutProduct(p, made, x, n);
            for (int i = 0; i < n; i++) {
                Check.due(call + " times the row at " + i, one[i], i == 0 ? 1 : 0);
                Check.holds(call + " in range", made[i] >= 0 && made[i] < p);
            }
        }
        ConvolutionBench b = new ConvolutionBench();
        Bench.fill(b, 0, Bench.LONGS, 1, -1);
        Bench.fill(b, 1, Bench.LONGS, -469762049L * 7, 5);
        Bench.fill(b, 2, Bench.DOUBLES, 1);
        b.series(0, 2, 3);
        Bench.dueFault("series(1, 2, 3)", b, b.series(1, 2, 3), Bench.ZERO, 5);
        Bench.dueFault("series(12, 2, 0)", b, b.series(12, 2, 0), -1, 0);
        Bench.dueFault("series(2, 2, 3)", b, b.series(2, 2, 3), Bench.CAST, 2);
        Bench.dueFault("series(9, 2, 0)", b, b.series(9, 2, 0), -2, 0);
        Bench.dueFault("series(9, 2, 1)", b, b.series(9, 2, 1), Bench.NULL, 1);
        Bench.dueFault("series(0, -1, 1)", b, b.series(0, -1, 1), -1, 0);
        Bench.dueFault("series(1, 2, 65)", b, b.series(1, 2, 65), -2, 0);
        Bench.dueResidues("what refusals leave", b, 1, 1, 1);
        Bench.dueFault("series(1, 0, 1)", b, b.series(1, 0, 1), 1, 0);
    }

    private static void divide() {
        Random random = new Random(23);
        for (int round = 0; round < 300; round++) {
            int prime = round % 3;
            long p = Bench.PRIMES[prime];
            long[] x = random(random, 1 + random.nextInt(64));
            long[] y = random(random, 1 + random.nextInt(random.nextBoolean() ? 64 : 8));
            int degree = random.nextInt(y.length);
            for (int i = degree + 1; i < y.length; i++) {
                y[i] = p * (random.nextInt(5) - 2);
            }
            y[degree] = random.nextBoolean() ? -1 : 12345;
            ConvolutionBench b = new ConvolutionBench();
            Bench.fill(b, 0, Bench.LONGS, x);
            Bench.fill(b, 1, Bench.LONGS, y);
            int count = Math.max(0, x.length - degree);
            Bench.dueFault("divide(0, 1, " + prime + ")", b, b.divide(0, 1, prime), count, 0);
            Check.due("count of the quotient", b.told(3), count);
            Check.due("count of the rest", b.told(4), degree);
            int room = Math.max(Math.max(x.length, degree), 1) + 64;
            long[] back = cutProduct(p, residues(b), y, room);
            long[] rest = rests(b);
            for (int i = 0; i < rest.length; i++) {
                back[i] = (back[i] + rest[i]) % p;
                Check.holds("a rest in range", rest[i] >= 0 && rest[i] < p);
            }
            for (int i = 0; i < room; i++) {
                Check.due("quotient times b and rest at " + i, back[i], i < x.length ? Math.floorMod(x[i], p) : 0);
            }
        }
    }

    private static void divideEdges() {
        ConvolutionBench b = new ConvolutionBench();
        Bench.fill(b, 0, Bench.BYTES, 1, 0, -1);
        Bench.fill(b, 1, Bench.BYTES, 1, 1);
        Bench.fill(b, 2, Bench.SHORTS, 5, 0, 0, 0, 1);
        Bench.fill(b, 3, Bench.LONGS, 998244353L, 0, -998244353L);
        Bench.fill(b, 4, Bench.DOUBLES, 1);
        Bench.fill(b, 5, Bench.INTS, 2);
        Bench.fill(b, 6, Bench.INTS, 7, 0, 0, 1);
        Check.due("divide(0, 1, 0)", b.divide(0, 1, 0), 2);
        Bench.dueResidues("divide(0, 1, 0)", b, 1, 998244352);
        Bench.dueRests("divide(0, 1, 0)", b, 0);
        Bench.dueFault("divide(0, 3, 0)", b, b.divide(0, 3, 0), Bench.ZERO, 5);
        Bench.dueFault("divide(0, 12, 0)", b, b.divide(0, 12, 0), -1, 0);
        Bench.dueFault("divide(4, 3, 0)", b, b.divide(4, 3, 0), Bench.CAST, 2);
        Bench.dueFault("divide(0, 1, 3)", b, b.divide(0, 1, 3), -1, 0);
        Bench.dueFault("divide(0, 4, 0)", b, b.divide(0, 4, 0), Bench.CAST, 2);
        Bench.dueFault("divide(4, 9, 0)", b, b.divide(4, 9, 0), Bench.NULL, 1);
        Bench.dueFault("divide(-1, 1, 0)", b, b.divide(-1, 1, 0), -1, 0);
        Bench.dueFault("divide(9, 3, 0)", b, b.divide(9, 3, 0), Bench.NULL, 1);
        Bench.dueResidues("what faults leave", b, 1, 998244352);
        Bench.dueRests("what faults leave", b, 0);
        Check.due("divide(0, 2, 0)", b.divide(0, 2, 0), 0);
        Bench.dueResidues("by a higher degree", b);
        Bench.dueRests("by a higher degree", b, 1, 0, 998244352, 0);
        Check.due("divide(0, 6, 0)", b.divide(0, 6, 0), 0);
        Bench.dueResidues("by a degree like the count", b);
        Bench.dueRests("by a degree like the count", b, 1, 0, 998244352);
        Check.due("divide(0, 5, 0)", b.divide(0, 5, 0), 3);
        Bench.dueResidues("by a constant", b, 499122177, 0, 499122176);
        Bench.dueRests("by a constant", b);
        Check.due("divide(3, 1, 0)", b.divide(3, 1, 0), 2);
        Bench.dueResidues("0 by another", b, 0, 0);
        Bench.dueRests("0 by another", b, 0);
        Check.due("divide(2, 2, 1)", b.divide(2, 2, 1), 1);
        Bench.dueResidues("by itself", b, 1);
        Bench.dueRests("by itself", b, 0, 0, 0, 0);
        Bench.dueFault("divide(3, 3, 1)", b, b.divide(3, 3, 1), 1, 0);
    }

    private static void evaluate() {
        Random random = new Random(24);
        for (int round = 0; round < 90; round++) {
            int prime = round % 3;
            long p = Bench.PRIMES[prime];
            long[] x = random(random, 1 + random.nextInt(64));
            long[] points = random(random, 1 + random.nextInt(64));
            long[] want = new long[points.length];
            for (int i = 0; i < points.length; i++) {
                long turn = 1;
                for (long entry : x) {
                    want[i] = (want[i] + Math.floorMod(entry, p) * turn) % p;
                    turn = turn * Math.floorMod(points[i], p) % p;
                }
            }
            ConvolutionBench b = new ConvolutionBench();
            Bench.fill(b, 0, Bench.LONGS, x);
            Bench.fill(b, 1, Bench.LONGS, points);
            Bench.dueFault("evaluate(0, 1, " + prime + ")", b, b.evaluate(0, 1, prime), points.length, 0);
            Bench.dueResidues("evaluate", b, want);
        }
        ConvolutionBench b = new ConvolutionBench();
        Bench.fill(b, 0, Bench.BYTES, 1, 2, 3);
        Bench.fill(b, 1, Bench.SHORTS, 0, 1, -1, 10);
        Bench.fill(b, 2, Bench.DOUBLES, 1);
        Check.due("evaluate(0, 1, 0)", b.evaluate(0, 1, 0), 4);
        Bench.dueFault("evaluate(2, 1, 0)", b, b.evaluate(2, 1, 0), Bench.CAST, 2);
        Bench.dueFault("evaluate(12, 9, 0)", b, b.evaluate(12, 9, 0), -1, 0);
        Bench.dueFault("evaluate(0, 2, 0)", b, b.evaluate(0, 2, 0), Bench.CAST, 2);
        Bench.dueFault("evaluate(0, 1, 3)", b, b.evaluate(0, 1, 3), -1, 0);
        Bench.dueFault("evaluate(2, 9, 0)", b, b.evaluate(2, 9, 0), Bench.NULL, 1);
        Bench.dueFault("evaluate(0, -1, 0)", b, b.evaluate(0, -1, 0), -1, 0);
        Bench.dueFault("evaluate(9, 1, 0)", b, b.evaluate(9, 1, 0), Bench.NULL, 1);
        Bench.dueResidues("what refusals leave", b, 1, 6, 2, 321);
    }

    private static void interpolate() {
        Random random = new Random(25);
        for (int round = 0; round < 90; round++) {
            int prime = round % 3;
            long p = Bench.PRIMES[prime];
            int n = round < 3 ? 64 : 1 + random.nextInt(64);
            long[] points = new long[n];
            for (int i = 0; i < n; i++) {
                points[i] = (i * 1000003L - 500L) + p * (random.nextInt(9) - 4);
            }
            long[] x = random(random, n);
            ConvolutionBench b = new ConvolutionBench();
            Bench.fill(b, 0, Bench.LONGS, x);
            Bench.fill(b, 1, Bench.LONGS, points);
            b.evaluate(0, 1, prime);
            long[] values = residues(b);
            values[0] -= p;
            Bench.fill(b, 2, Bench.LONGS, values);
            Bench.dueFault("interpolate(1, 2, " + prime + ")", b, b.interpolate(1, 2, prime), n, 0);
            Bench.dueResidues("interpolate", b, over(p, x));
        }
        ConvolutionBench b = new ConvolutionBench();
        Bench.fill(b, 0, Bench.BYTES, 0, 1, 2);
        Bench.fill(b, 1, Bench.BYTES, 5, 6, 9);
        Check.due("interpolate(0, 1, 1)", b.interpolate(0, 1, 1), 3);
        Bench.dueResidues("through three points", b, 5, 0, 1);
        Bench.fill(b, 0, Bench.BYTES, 7);
        Bench.fill(b, 1, Bench.BYTES, -1);
        Check.due("interpolate(0, 1, 1)", b.interpolate(0, 1, 1), 1);
        Bench.dueResidues("through one point", b, 1004535808);
    }

    private static void interpolateRefused() {
        ConvolutionBench b = new ConvolutionBench();
        Bench.fill(b, 0, Bench.LONGS, 1, 1 + 998244353L);
        Bench.fill(b, 1, Bench.BYTES, 5, 6);
        Bench.fill(b, 2, Bench.BYTES, 5, 6, 7);
        Bench.fill(b, 3, Bench.DOUBLES, 5, 6);
        Check.due("interpolate(1, 1, 0)", b.interpolate(1, 1, 0), 2);
        Bench.dueFault("interpolate(0, 1, 0)", b, b.interpolate(0, 1, 0), Bench.ZERO, 5);
        Bench.dueFault("interpolate(0, 2, 0)", b, b.interpolate(0, 2, 0), -3, 0);
        Bench.dueFault("interpolate(0, 3, 0)", b, b.interpolate(0, 3, 0), Bench.CAST, 2);
        Bench.dueFault("interpolate(2, 1, 0)", b, b.interpolate(2, 1, 0), -3, 0);
        Bench.dueFault("interpolate(3, 2, 0)", b, b.interpolate(3, 2, 0), Bench.CAST, 2);
        Bench.dueFault("interpolate(0, 1, 3)", b, b.interpolate(0, 1, 3), -1, 0);
        Bench.dueFault("interpolate(3, 9, 0)", b, b.interpolate(3, 9, 0), Bench.NULL, 1);
        Bench.dueFault("interpolate(12, 9, 0)", b, b.interpolate(12, 9, 0), -1, 0);
        Bench.dueFault("interpolate(9, 2, 0)", b, b.interpolate(9, 2, 0), Bench.NULL, 1);
        Bench.dueFault("interpolate(0, -1, 0)", b, b.interpolate(0, -1, 0), -1, 0);
        Bench.dueResidues("what refusals leave", b, 0, 1);
        Bench.dueFault("other primes tell them apart", b, b.interpolate(0, 1, 1), 2, 0);
    }

    private static void residueAndRest() {
        ConvolutionBench b = new ConvolutionBench();
        Bench.fill(b, 0, Bench.BYTES, 1, 2, 3, 4);
        Bench.fill(b, 1, Bench.BYTES, 1, 0, 1);
        b.divide(0, 1, 0);
        b.at(9, 0);
        Bench.dueResidues("of divide", b, 3, 4);
        Bench.dueRests("of divide", b, 998244351, 998244351);
        Check.due("residue(MIN)", b.residue(Integer.MIN_VALUE), -1);
        Check.due("rest(MAX)", b.rest(Integer.MAX_VALUE), -1);
        Check.due("fault() behind residue, rest", b.fault(), 1);
        b.power(0, 1, 1, 1);
        b.series(0, 1, 2);
        b.evaluate(0, 1, 1);
        b.interpolate(0, 0, 1);
        Bench.dueResidues("of interpolate", b, 0, 1, 0, 0);
        Bench.dueRests("what only divide makes anew", b, 998244351, 998244351);
    }
}
