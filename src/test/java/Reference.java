import java.math.BigInteger;
import java.util.ArrayList;
import java.util.Arrays;
import java.util.List;

/**
 * The document a second time, as plainly as the library allows: rows are arrays of their own kind, and
 * what the machine throws is caught by its kind.
 */
final class Reference {
    private static final int UNKNOWN = -1, OUTSIDE = -2, STATE = -3, FULL = -4, NONE = -9;
    private static final BigInteger[] PRIMES = {
        BigInteger.valueOf(998244353), BigInteger.valueOf(1004535809), BigInteger.valueOf(469762049)};

    private final Object[] places = new Object[12];
    private List<BigInteger> spectrum = null;
    private int spectrumPrime = NONE;
    private List<BigInteger> product = new ArrayList<>();
    private List<BigInteger> residues = new ArrayList<>();
    private List<BigInteger> rests = new ArrayList<>();
    private List<Integer> fits = new ArrayList<>();
    private List<Double> reals = new ArrayList<>();
    private int fault = 0;

    private interface Act {
        long run();
    }

    /** A divisor that is 0 over a prime. */
    private static BigInteger inverted(BigInteger v, BigInteger p) {
        if (v.mod(p).signum() == 0) {
            throw new ArithmeticException("0 over a prime");
        }
        return v.modInverse(p);
    }

    private long caught(boolean tellsLong, Act act) {
        fault = 0;
        try {
            return act.run();
        } catch (NullPointerException e) {
            fault = 1;
        } catch (ClassCastException e) {
            fault = 2;
        } catch (IndexOutOfBoundsException e) {
            fault = 3;
        } catch (NegativeArraySizeException e) {
            fault = 4;
        } catch (ArithmeticException e) {
            fault = 5;
        }
        return tellsLong ? 0 : -10 - fault;
    }

    private static boolean place(int p) {
        return p >= 0 && p <= 11;
    }

    private static boolean prime(int p) {
        return p >= 0 && p <= 2;
    }

    private static boolean count(int n) {
        return n >= 1 && n <= 64;
    }

    private static int size(Object row) {
        return java.lang.reflect.Array.getLength(row);
    }

    private static int lane(Object row) {
        return row instanceof byte[] ? 0 : row instanceof short[] ? 1 : row instanceof int[] ? 2 : row instanceof long[] ? 3 : 4;
    }

    private static long entry(Object row, int i) {
        if (row instanceof double[]) {
            return Double.doubleToLongBits(((double[]) row)[i]);
        }
        return java.lang.reflect.Array.getLong(row, i);
    }

    private static void become(Object row, int i, long v) {
        if (row == null) {
            throw new NullPointerException();
        }
        switch (lane(row)) {
            case 0: ((byte[]) row)[i] = (byte) v; break;
            case 1: ((short[]) row)[i] = (short) v; break;
            case 2: ((int[]) row)[i] = (int) v; break;
            case 3: ((long[]) row)[i] = v; break;
            default: ((double[]) row)[i] = Double.longBitsToDouble(v); break;
        }
    }

    /** All entries of a row whose lane is at most the last one. */
    private static BigInteger[] whole(Object row, int lastLane) {
        if (lane(row) > lastLane) {
            throw new ClassCastException();
        }
        BigInteger[] x = new BigInteger[size(row)];
        for (int i = 0; i < x.length; i++) {
            x[i] = BigInteger.valueOf(entry(row, i));
        }
        return x;
    }

    private static void needRows(Object... rows) {
        for (Object row : rows) {
            if (row == null) {
                throw new NullPointerException();
            }
        }
    }

    private static Object newRow(int lane, int n) {
        return lane == 0 ? new byte[n] : lane == 1 ? new short[n] : lane == 2 ? new int[n] : lane == 3 ? new long[n] : new double[n];
    }

    private static List<BigInteger> zeros(int n) {
        List<BigInteger> row = new ArrayList<>();
        for (int i = 0; i < n; i++) {
            row.add(BigInteger.ZERO);
        }
        return row;
    }

    private static void addAt(List<BigInteger> row, int i, BigInteger v) {
        row.set(i, row.get(i).add(v));
    }

    long row(int p, int lane, int n) {
        return caught(false, () -> {
            if (!place(p)) {
                return UNKNOWN;
            }
            if (lane < 0 || lane > 4 || n == 0 || n > 64) {
                return OUTSIDE;
            }
            places[p] = newRow(lane, n);
            return 1;
        });
    }

    long share(int p, int from) {
        if (!place(p) || !place(from)) {
            return UNKNOWN;
        }
        places[p] = places[from];
        return 1;
    }

    long kind(int p, int what) {
        if (!place(p)) {
            return UNKNOWN;
        }
        if (what != 0 && what != 1) {
            return OUTSIDE;
        }
        return places[p] == null ? NONE : what == 0 ? lane(places[p]) : size(places[p]);
    }

    long put(int p, int i, long v) {
        return caught(false, () -> {
            if (!place(p)) {
                return UNKNOWN;
            }
            become(places[p], i, v);
            return 1;
        });
    }

    long at(int p, int i) {
        return caught(true, () -> place(p) ? entry(places[p], i) : 0);
    }

    long as(int p, int i, int lane) {
        return caught(true, () -> {
            if (!place(p) || lane < 0 || lane > 4) {
                return 0;
            }
            switch (lane) {
                case 0: return ((byte[]) places[p])[i];
                case 1: return ((short[]) places[p])[i];
                case 2: return ((int[]) places[p])[i];
                case 3: return ((long[]) places[p])[i];
                default: return Double.doubleToLongBits(((double[]) places[p])[i]);
            }
        });
    }

    private static void moveAll(Object row, int[] target) {
        long[] old = new long[size(row)];
        for (int i = 0; i < old.length; i++) {
            old[i] = entry(row, i);
        }
        for (int i = 0; i < old.length; i++) {
            become(row, target[i], old[i]);
        }
    }

    long reverse(int p) {
        return caught(false, () -> {
            if (!place(p)) {
                return UNKNOWN;
            }
            int n = size(places[p]);
            int[] target = new int[n];
            Arrays.setAll(target, i -> n - 1 - i);
            moveAll(places[p], target);
            return 1;
        });
    }

    long shift(int p, int k) {
        return caught(false, () -> {
            if (!place(p)) {
                return UNKNOWN;
            }
            int n = size(places[p]);
            int[] target = new int[n];
            Arrays.setAll(target, i -> (int) Math.floorMod((long) i + k, (long) n));
            moveAll(places[p], target);
            return 1;
        });
    }

    private static boolean divides(int n, int prime) {
        return PRIMES[prime].subtract(BigInteger.ONE).mod(BigInteger.valueOf(n)).signum() == 0;
    }

    private static BigInteger rootOf(int prime, int n) {
        BigInteger p = PRIMES[prime];
        return BigInteger.valueOf(3).modPow(p.subtract(BigInteger.ONE).divide(BigInteger.valueOf(n)), p);
    }

    private static List<BigInteger> turned(BigInteger[] x, BigInteger w, BigInteger p) {
        List<BigInteger> values = zeros(x.length);
        for (int j = 0; j < x.length; j++) {
            BigInteger step = w.modPow(BigInteger.valueOf(j), p);
            BigInteger turn = BigInteger.ONE;
            for (BigInteger v : x) {
                values.set(j, values.get(j).add(v.multiply(turn)).mod(p));
                turn = turn.multiply(step).mod(p);
            }
        }
        return values;
    }

    long root(int prime, int n) {
        return caught(true, () -> {
            if (!prime(prime) || !count(n)) {
                return 0;
            }
            if (!divides(n, prime)) {
                throw new ArithmeticException();
            }
            return rootOf(prime, n).longValue();
        });
    }

    long transform(int p, int prime) {
        return caught(false, () -> {
            if (!place(p) || !prime(prime)) {
                return UNKNOWN;
            }
            needRows(places[p]);
            BigInteger[] x = whole(places[p], 3);
            if (!divides(x.length, prime)) {
                return STATE;
            }
            spectrum = turned(x, rootOf(prime, x.length), PRIMES[prime]);
            spectrumPrime = prime;
            return x.length;
        });
    }

    long times(int p) {
        return caught(false, () -> {
            if (!place(p)) {
                return UNKNOWN;
            }
            needRows(places[p]);
            BigInteger[] x = whole(places[p], 3);
            if (spectrum == null || spectrum.size() != x.length) {
                return STATE;
            }
            List<BigInteger> other = turned(x, rootOf(spectrumPrime, x.length), PRIMES[spectrumPrime]);
            for (int j = 0; j < x.length; j++) {
                spectrum.set(j, spectrum.get(j).multiply(other.get(j)).mod(PRIMES[spectrumPrime]));
            }
            return x.length;
        });
    }

    long value(int i) {
        return spectrum != null && i >= 0 && i < spectrum.size() ? spectrum.get(i).longValue() : UNKNOWN;
    }

    long inverse(int p) {
        if (!place(p)) {
            return UNKNOWN;
        }
        if (spectrum == null) {
            return STATE;
        }
        int n = spectrum.size();
        BigInteger over = PRIMES[spectrumPrime];
        BigInteger part = BigInteger.valueOf(n).modInverse(over);
        BigInteger back = rootOf(spectrumPrime, n).modInverse(over);
        List<BigInteger> made = turned(spectrum.toArray(new BigInteger[0]), back, over);
        long[] row = new long[n];
        for (int i = 0; i < n; i++) {
            row[i] = made.get(i).multiply(part).mod(over).longValue();
        }
        places[p] = row;
        return n;
    }

    private static BigInteger greatest(BigInteger[] x) {
        BigInteger most = BigInteger.ZERO;
        for (BigInteger v : x) {
            most = most.max(v.abs());
        }
        return most;
    }

    long multiply(int a, int b, int way) {
        return caught(false, () -> {
            if (!place(a) || !place(b)) {
                return UNKNOWN;
            }
            if (way < 0 || way > 2) {
                return OUTSIDE;
            }
            needRows(places[a], places[b]);
            BigInteger[] x = whole(places[a], 2);
            BigInteger[] y = whole(places[b], 2);
            BigInteger bound = BigInteger.valueOf(2L * Math.min(x.length, y.length)).multiply(greatest(x)).multiply(greatest(y));
            if (way == 1 && bound.compareTo(PRIMES[0]) >= 0) {
                return STATE;
            }
            product = zeros(x.length + y.length - 1);
            for (int i = 0; i < x.length; i++) {
                for (int j = 0; j < y.length; j++) {
                    addAt(product, i + j, x[i].multiply(y[j]));
                }
            }
            return product.size();
        });
    }

    long circular(int a, int b, int n) {
        return caught(false, () -> {
            if (!place(a) || !place(b)) {
                return UNKNOWN;
            }
            if (!count(n)) {
                return OUTSIDE;
            }
            needRows(places[a], places[b]);
            BigInteger[] x = whole(places[a], 2);
            BigInteger[] y = whole(places[b], 2);
            product = zeros(n);
            for (int j = 0; j < x.length; j++) {
                for (int k = 0; k < y.length; k++) {
                    addAt(product, (j + k) % n, x[j].multiply(y[k]));
                }
            }
            return n;
        });
    }

    long correlate(int a, int b) {
        return caught(false, () -> {
            if (!place(a) || !place(b)) {
                return UNKNOWN;
            }
            needRows(places[a], places[b]);
            BigInteger[] x = whole(places[a], 2);
            BigInteger[] y = whole(places[b], 2);
            int m = y.length;
            product = zeros(x.length + m - 1);
            for (int i = 0; i < product.size(); i++) {
                for (int j = 0; j < m; j++) {
                    int at = j + i - (m - 1);
                    if (at >= 0 && at < x.length) {
                        addAt(product, i, x[at].multiply(y[j]));
                    }
                }
            }
            return product.size();
        });
    }

    long slide(int a, int w) {
        return caught(false, () -> {
            if (!place(a)) {
                return UNKNOWN;
            }
            if (!count(w)) {
                return OUTSIDE;
            }
            needRows(places[a]);
            BigInteger[] x = whole(places[a], 3);
            product = new ArrayList<>();
            for (int i = 0; i + w <= x.length; i++) {
                product.add(BigInteger.ZERO);
                for (int j = i; j < i + w; j++) {
                    addAt(product, i, x[j]);
                }
            }
            return product.size();
        });
    }

    long high(int i) {
        return i >= 0 && i < product.size() ? product.get(i).shiftRight(64).longValueExact() : 0;
    }

    long low(int i) {
        return i >= 0 && i < product.size() ? product.get(i).longValue() : 0;
    }

    long carry(int p, int base) {
        if (!place(p)) {
            return UNKNOWN;
        }
        if (base < 2 || base > 10000) {
            return OUTSIDE;
        }
        if (product.isEmpty() || product.stream().anyMatch(v -> v.signum() < 0)) {
            return STATE;
        }
        BigInteger to = BigInteger.valueOf(base);
        BigInteger number = BigInteger.ZERO;
        for (int k = 0; k < product.size(); k++) {
            number = number.add(product.get(k).multiply(to.pow(k)));
        }
        List<Integer> digits = new ArrayList<>();
        do {
            digits.add(number.mod(to).intValue());
            number = number.divide(to);
        } while (number.signum() > 0);
        if (digits.size() > 64) {
            return FULL;
        }
        places[p] = digits.stream().mapToInt(d -> d).toArray();
        return digits.size();
    }

    long cost(int way, int n, int m) {
        if (way < 0 || way > 2) {
            return UNKNOWN;
        }
        if (!count(n) || !count(m)) {
            return OUTSIDE;
        }
        int l = BigInteger.valueOf(n + m - 2).bitLength();
        int length = 1 << l;
        int one = 3 * length * l / 2 + 2 * length;
        return way == 0 ? n * m : way == 1 ? one : 3 * one + 6 * (n + m - 1);
    }

    long plan(int n, int m) {
        if (!count(n) || !count(m)) {
            return OUTSIDE;
        }
        return cost(2, n, m) < cost(0, n, m) ? 2 : 0;
    }

    private static List<BigInteger> reduced(BigInteger[] x, BigInteger p) {
        List<BigInteger> row = new ArrayList<>();
        for (BigInteger v : x) {
            row.add(v.mod(p));
        }
        return row;
    }

    private static List<BigInteger> product(List<BigInteger> x, List<BigInteger> y, BigInteger p, int n) {
        List<BigInteger> made = zeros(n);
        for (int i = 0; i < x.size(); i++) {
            for (int j = 0; j < y.size() && i + j < n; j++) {
                made.set(i + j, made.get(i + j).add(x.get(i).multiply(y.get(j))).mod(p));
            }
        }
        return made;
    }

    long power(int a, int prime, int k, int n) {
        return caught(false, () -> {
            if (!place(a) || !prime(prime)) {
                return UNKNOWN;
            }
            if (k < 0 || k > 1000 || !count(n)) {
                return OUTSIDE;
            }
            needRows(places[a]);
            List<BigInteger> x = reduced(whole(places[a], 3), PRIMES[prime]);
            residues = zeros(n);
            residues.set(0, BigInteger.ONE);
            for (int i = 0; i < k; i++) {
                residues = product(residues, x, PRIMES[prime], n);
            }
            return n;
        });
    }

    long series(int a, int prime, int n) {
        return caught(false, () -> {
            if (!place(a) || !prime(prime)) {
                return UNKNOWN;
            }
            if (!count(n)) {
                return OUTSIDE;
            }
            needRows(places[a]);
            BigInteger p = PRIMES[prime];
            List<BigInteger> x = reduced(whole(places[a], 3), p);
            BigInteger part = inverted(x.get(0), p);
            // Long division of 1, 0, 0, .. by the row.
            List<BigInteger> left = zeros(n);
            left.set(0, BigInteger.ONE);
            residues = zeros(n);
            for (int k = 0; k < n; k++) {
                BigInteger fold = left.get(k).multiply(part).mod(p);
                residues.set(k, fold);
                for (int i = 0; i < x.size() && k + i < n; i++) {
                    left.set(k + i, left.get(k + i).subtract(fold.multiply(x.get(i))).mod(p));
                }
            }
            return n;
        });
    }

    long divide(int a, int b, int prime) {
        return caught(false, () -> {
            if (!place(a) || !place(b) || !prime(prime)) {
                return UNKNOWN;
            }
            needRows(places[a], places[b]);
            BigInteger p = PRIMES[prime];
            List<BigInteger> left = reduced(whole(places[a], 3), p);
            List<BigInteger> y = reduced(whole(places[b], 3), p);
            while (!y.isEmpty() && y.get(y.size() - 1).signum() == 0) {
                y.remove(y.size() - 1);
            }
            BigInteger part = inverted(y.isEmpty() ? BigInteger.ZERO : y.get(y.size() - 1), p);
            int degree = y.size() - 1;
            residues = new ArrayList<>();
            while (left.size() > degree) {
                int top = left.size() - 1;
                BigInteger fold = left.get(top).multiply(part).mod(p);
                residues.add(0, fold);
                for (int i = 0; i <= degree; i++) {
                    int at = top - degree + i;
                    left.set(at, left.get(at).subtract(fold.multiply(y.get(i))).mod(p));
                }
                left.remove(top);
            }
            while (left.size() < degree) {
                left.add(BigInteger.ZERO);
            }
            rests = left;
            return residues.size();
        });
    }

    long evaluate(int a, int points, int prime) {
        return caught(false, () -> {
            if (!place(a) || !place(points) || !prime(prime)) {
                return UNKNOWN;
            }
            needRows(places[a], places[points]);
            BigInteger p = PRIMES[prime];
            BigInteger[] x = whole(places[a], 3);
            BigInteger[] where = whole(places[points], 3);
            residues = new ArrayList<>();
            for (BigInteger point : where) {
                BigInteger sum = BigInteger.ZERO;
                for (int i = 0; i < x.length; i++) {
                    sum = sum.add(x[i].multiply(point.modPow(BigInteger.valueOf(i), p)));
                }
                residues.add(sum.mod(p));
            }
            return where.length;
        });
    }

    long interpolate(int points, int values, int prime) {
        return caught(false, () -> {
            if (!place(points) || !place(values) || !prime(prime)) {
                return UNKNOWN;
            }
            needRows(places[points], places[values]);
            BigInteger p = PRIMES[prime];
            BigInteger[] where = whole(places[points], 3);
            BigInteger[] what = whole(places[values], 3);
            int n = where.length;
            if (n != what.length) {
                return STATE;
            }
            List<BigInteger> made = zeros(n);
            for (int i = 0; i < n; i++) {
                List<BigInteger> part = zeros(n);
                part.set(0, what[i].mod(p));
                for (int j = 0; j < n; j++) {
                    if (j != i) {
                        BigInteger scale = inverted(where[i].subtract(where[j]), p);
                        part = product(part, List.of(where[j].negate().multiply(scale), scale), p, n);
                    }
                }
                for (int k = 0; k < n; k++) {
                    made.set(k, made.get(k).add(part.get(k)).mod(p));
                }
            }
            residues = made;
            return n;
        });
    }

    private static long pick(List<BigInteger> row, int i) {
        return i >= 0 && i < row.size() ? row.get(i).longValueExact() : UNKNOWN;
    }

    long residue(int i) {
        return pick(residues, i);
    }

    long rest(int i) {
        return pick(rests, i);
    }

    long match(int text, int pattern, long wild) {
        return caught(false, () -> {
            if (!place(text) || !place(pattern)) {
                return UNKNOWN;
            }
            needRows(places[text], places[pattern]);
            BigInteger[] x = whole(places[text], 3);
            BigInteger[] y = whole(places[pattern], 3);
            BigInteger any = BigInteger.valueOf(wild);
            fits = new ArrayList<>();
            for (int k = 0; k + y.length <= x.length; k++) {
                boolean fit = true;
                for (int i = 0; i < y.length; i++) {
                    fit &= y[i].equals(any) || x[k + i].equals(any) || y[i].equals(x[k + i]);
                }
                if (fit) {
                    fits.add(k);
                }
            }
            return fits.size();
        });
    }

    long matchAt(int i) {
        return i >= 0 && i < fits.size() ? fits.get(i) : NONE;
    }

    private static double real(Object row, int i) {
        return row instanceof double[] ? ((double[]) row)[i] : (double) entry(row, i);
    }

    long real(int a, int b) {
        return caught(false, () -> {
            if (!place(a) || !place(b)) {
                return UNKNOWN;
            }
            needRows(places[a], places[b]);
            int n = size(places[a]);
            int m = size(places[b]);
            reals = new ArrayList<>();
            for (int k = 0; k < n + m - 1; k++) {
                double sum = 0.0;
                for (int i = 0; i < n; i++) {
                    if (k - i >= 0 && k - i < m) {
                        double act = real(places[a], i) * real(places[b], k - i);
                        sum = sum + act;
                    }
                }
                reals.add(sum);
            }
            return n + m - 1;
        });
    }

    long realAt(int i) {
        return Double.doubleToLongBits(i >= 0 && i < reals.size() ? reals.get(i) : Double.NaN);
    }

    long fault() {
        return fault;
    }

    long told(int what) {
        switch (what) {
            case 0: return spectrum == null ? 0 : spectrum.size();
            case 1: return spectrumPrime;
            case 2: return product.size();
            case 3: return residues.size();
            case 4: return rests.size();
            case 5: return fits.size();
            case 6: return reals.size();
            default: return OUTSIDE;
        }
    }
}
