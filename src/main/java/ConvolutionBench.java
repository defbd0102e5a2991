import java.util.Arrays;

/**
 * A bench for rows of numbers and their products: exact, over primes, and of doubles.
 *
 * <p>No call throws. What a call is refused for, and what the machine would have against it, is
 * looked for ahead of the act and told by a number.
 */
public final class ConvolutionBench {
    public static final int UNKNOWN = -1, OUTSIDE = -2, STATE = -3, FULL = -4, NONE = -9;

    private static final int NULL = 1, CAST = 2, INDEX = 3, SIZE = 4, ZERO = 5;
    private static final int BYTES = 0, SHORTS = 1, INTS = 2, LONGS = 3, DOUBLES = 4;
    private static final int PLAIN = 0, ONE_PRIME = 1, THREE_PRIMES = 2;

    private static final int PLACES = 12;
    private static final int PRIMES = 3;
    private static final int MOST_ENTRIES = 64;
    private static final int MOST_SUMS = 2 * MOST_ENTRIES - 1;
    private static final int MOST_POWER = 1000;
    private static final int LEAST_BASE = 2, MOST_BASE = 10000;

    /** Above what any product has to base 2: a digit an entry, and what is carried behind the last. */
    private static final int MOST_DIGITS = 256;

    private static final long NOT_A_NUMBER = 0x7ff8000000000000L;

    private final Row[] places;
    private final Field[] fields;
    private final Numbers spectrum;
    private final Product product;
    private final Numbers residues;
    private final Numbers rests;
    private final Numbers fits;
    private final Numbers reals;

    private final Transformer transformer;
    private final Polynomials polynomials;
    private final RealProducts realProducts;
    private final long[] digits;

    private int spectrumPrime;
    private int latestFault;

    public ConvolutionBench() {
        places = new Row[PLACES];
        fields = new Field[PRIMES];
        fields[0] = new Field(998244353L);
        fields[1] = new Field(1004535809L);
        fields[2] = new Field(469762049L);
        spectrum = new Numbers(MOST_ENTRIES);
        product = new Product(fields[0], fields[1], fields[2]);
        residues = new Numbers(MOST_ENTRIES);
        rests = new Numbers(MOST_ENTRIES);
        fits = new Numbers(MOST_ENTRIES);
        reals = new Numbers(MOST_SUMS);
        transformer = new Transformer();
        polynomials = new Polynomials();
        realProducts = new RealProducts();
        digits = new long[MOST_ENTRIES];
        spectrumPrime = NONE;
        latestFault = 0;
    }

    // ---- 1 rows

    public int row(int p, int lane, int n) {
        if (!isPlace(p)) {
            return faultless(UNKNOWN);
        }
        if (lane < BYTES || lane > DOUBLES || n == 0 || n > MOST_ENTRIES) {
            return faultless(OUTSIDE);
        }
        if (n < 0) {
            return faulted(SIZE);
        }
        places[p] = new Row(lane, n);
        return faultless(1);
    }

    public int share(int p, int from) {
        if (!isPlace(p) || !isPlace(from)) {
            return UNKNOWN;
        }
        places[p] = places[from];
        return 1;
    }

    public int kind(int p, int what) {
        if (!isPlace(p)) {
            return UNKNOWN;
        }
        if (what < 0 || what > 1) {
            return OUTSIDE;
        }
        Row x = places[p];
        if (x == null) {
            return NONE;
        }
        return what == 0 ? x.lane : x.size;
    }

    public int put(int p, int i, long v) {
        if (!isPlace(p)) {
            return faultless(UNKNOWN);
        }
        Row x = places[p];
        if (x == null) {
            return faulted(NULL);
        }
        if (!x.has(i)) {
            return faulted(INDEX);
        }
        x.entries[i] = x.narrowed(v);
        return faultless(1);
    }

    public long at(int p, int i) {
        if (!isPlace(p)) {
            return faultless(0);
        }
        return entryOf(places[p], i);
    }

    public long as(int p, int i, int lane) {
        if (!isPlace(p) || lane < BYTES || lane > DOUBLES) {
            return faultless(0);
        }
        Row x = places[p];
        if (x != null && x.lane != lane) {
            return faultedLong(CAST);
        }
        return entryOf(x, i);
    }

    public int reverse(int p) {
        if (!isPlace(p)) {
            return faultless(UNKNOWN);
        }
        Row x = places[p];
        if (x == null) {
            return faulted(NULL);
        }
        x.flip(0, x.size - 1);
        return faultless(1);
    }

    public int shift(int p, int k) {
        if (!isPlace(p)) {
            return faultless(UNKNOWN);
        }
        Row x = places[p];
        if (x == null) {
            return faulted(NULL);
        }
        x.turn(k);
        return faultless(1);
    }

    // ---- 2 transforms

    public long root(int prime, int n) {
        if (!isPrime(prime) || !isCount(n)) {
            return faultless(0);
        }
        if (!fields[prime].hasRoot(n)) {
            return faultedLong(ZERO);
        }
        latestFault = 0;
        return fields[prime].rootFor(n);
    }

    public int transform(int p, int prime) {
        if (!isPlace(p) || !isPrime(prime)) {
            return faultless(UNKNOWN);
        }
        Row x = places[p];
        int met = faultOf(x, LONGS);
        if (met != 0) {
            return faulted(met);
        }
        if (!fields[prime].hasRoot(x.size)) {
            return faultless(STATE);
        }
        spectrum.begin(x.size);
        transformer.forward(fields[prime], x, spectrum.entries);
        spectrumPrime = prime;
        return faultless(spectrum.count);
    }

    public int times(int p) {
        if (!isPlace(p)) {
            return faultless(UNKNOWN);
        }
        Row x = places[p];
        int met = faultOf(x, LONGS);
        if (met != 0) {
            return faulted(met);
        }
        if (!isPrime(spectrumPrime) || x.size != spectrum.count) {
            return faultless(STATE);
        }
        transformer.forwardTimes(fields[spectrumPrime], x, spectrum.entries);
        return faultless(spectrum.count);
    }

    public long value(int i) {
        return spectrum.entryOr(i, UNKNOWN);
    }

    public int inverse(int p) {
        if (!isPlace(p)) {
            return UNKNOWN;
        }
        if (!isPrime(spectrumPrime)) {
            return STATE;
        }
        Row made = new Row(LONGS, spectrum.count);
        transformer.backward(fields[spectrumPrime], spectrum.entries, made);
        places[p] = made;
        return made.size;
    }

    // ---- 3 exact products

    public int multiply(int a, int b, int way) {
        if (!isPlace(a) || !isPlace(b)) {
            return faultless(UNKNOWN);
        }
        if (!isWay(way)) {
            return faultless(OUTSIDE);
        }
        Row x = places[a];
        Row y = places[b];
        int met = faultOfPair(x, y, INTS);
        if (met != 0) {
            return faulted(met);
        }
        if (way == ONE_PRIME && !product.fitsOnePrime(x, y)) {
            return faultless(STATE);
        }
        product.ofRows(x, y, way);
        return faultless(product.count);
    }

    public int circular(int a, int b, int n) {
        if (!isPlace(a) || !isPlace(b)) {
            return faultless(UNKNOWN);
        }
        if (!isCount(n)) {
            return faultless(OUTSIDE);
        }
        Row x = places[a];
        Row y = places[b];
        int met = faultOfPair(x, y, INTS);
        if (met != 0) {
            return faulted(met);
        }
        product.aroundCircle(x, y, n);
        return faultless(product.count);
    }

    public int correlate(int a, int b) {
        if (!isPlace(a) || !isPlace(b)) {
            return faultless(UNKNOWN);
        }
        Row x = places[a];
        Row y = places[b];
        int met = faultOfPair(x, y, INTS);
        if (met != 0) {
            return faulted(met);
        }
        product.alongRow(x, y);
        return faultless(product.count);
    }

    public int slide(int a, int w) {
        if (!isPlace(a)) {
            return faultless(UNKNOWN);
        }
        if (!isCount(w)) {
            return faultless(OUTSIDE);
        }
        Row x = places[a];
        int met = faultOf(x, LONGS);
        if (met != 0) {
            return faulted(met);
        }
        product.ofWindows(x, w);
        return faultless(product.count);
    }

    public long high(int i) {
        return product.has(i) ? product.upper[i] : 0;
    }

    public long low(int i) {
        return product.has(i) ? product.lower[i] : 0;
    }

    public int carry(int p, int base) {
        if (!isPlace(p)) {
            return UNKNOWN;
        }
        if (base < LEAST_BASE || base > MOST_BASE) {
            return OUTSIDE;
        }
        if (product.count == 0 || product.hasNegative()) {
            return STATE;
        }
        int count = product.spell(base, digits);
        if (count > MOST_ENTRIES) {
            return FULL;
        }
        Row made = new Row(INTS, count);
        System.arraycopy(digits, 0, made.entries, 0, count);
        places[p] = made;
        return count;
    }

    public int cost(int way, int n, int m) {
        if (!isWay(way)) {
            return UNKNOWN;
        }
        if (!isCount(n) || !isCount(m)) {
            return OUTSIDE;
        }
        return costOf(way, n, m);
    }

    public int plan(int n, int m) {
        if (!isCount(n) || !isCount(m)) {
            return OUTSIDE;
        }
        return costOf(PLAIN, n, m) <= costOf(THREE_PRIMES, n, m) ? PLAIN : THREE_PRIMES;
    }

    // ---- 4 over a prime

    public int power(int a, int prime, int k, int n) {
        if (!isPlace(a) || !isPrime(prime)) {
            return faultless(UNKNOWN);
        }
        if (k < 0 || k > MOST_POWER || !isCount(n)) {
            return faultless(OUTSIDE);
        }
        Row x = places[a];
        int met = faultOf(x, LONGS);
        if (met != 0) {
            return faulted(met);
        }
        residues.begin(n);
        polynomials.raise(fields[prime], x, k, residues);
        return faultless(residues.count);
    }

    public int series(int a, int prime, int n) {
        if (!isPlace(a) || !isPrime(prime)) {
            return faultless(UNKNOWN);
        }
        if (!isCount(n)) {
            return faultless(OUTSIDE);
        }
        Row x = places[a];
        int met = faultOf(x, LONGS);
        if (met != 0) {
            return faulted(met);
        }
        if (fields[prime].reduce(x.entries[0]) == 0) {
            return faulted(ZERO);
        }
        residues.begin(n);
        polynomials.invert(fields[prime], x, residues);
        return faultless(residues.count);
    }

    public int divide(int a, int b, int prime) {
        if (!isPlace(a) || !isPlace(b) || !isPrime(prime)) {
            return faultless(UNKNOWN);
        }
        Row x = places[a];
        Row y = places[b];
        int met = faultOfPair(x, y, LONGS);
        if (met != 0) {
            return faulted(met);
        }
        int degree = Polynomials.degreeOf(fields[prime], y);
        if (degree < 0) {
            return faulted(ZERO);
        }
        residues.begin(Math.max(0, x.size - degree));
        rests.begin(degree);
        polynomials.split(fields[prime], x, y, residues, rests);
        return faultless(residues.count);
    }

    public int evaluate(int a, int points, int prime) {
        if (!isPlace(a) || !isPlace(points) || !isPrime(prime)) {
            return faultless(UNKNOWN);
        }
        Row x = places[a];
        Row where = places[points];
        int met = faultOfPair(x, where, LONGS);
        if (met != 0) {
            return faulted(met);
        }
        residues.begin(where.size);
        polynomials.worth(fields[prime], x, where, residues);
        return faultless(residues.count);
    }

    public int interpolate(int points, int values, int prime) {
        if (!isPlace(points) || !isPlace(values) || !isPrime(prime)) {
            return faultless(UNKNOWN);
        }
        Row where = places[points];
        Row what = places[values];
        int met = faultOfPair(where, what, LONGS);
        if (met != 0) {
            return faulted(met);
        }
        if (where.size != what.size) {
            return faultless(STATE);
        }
        if (Polynomials.hasTwins(fields[prime], where)) {
            return faulted(ZERO);
        }
        residues.begin(where.size);
        polynomials.through(fields[prime], where, what, residues);
        return faultless(residues.count);
    }

    public long residue(int i) {
        return residues.entryOr(i, UNKNOWN);
    }

    public long rest(int i) {
        return rests.entryOr(i, UNKNOWN);
    }

    // ---- 5 fits, doubles

    public int match(int text, int pattern, long wild) {
        if (!isPlace(text) || !isPlace(pattern)) {
            return faultless(UNKNOWN);
        }
        Row x = places[text];
        Row y = places[pattern];
        int met = faultOfPair(x, y, LONGS);
        if (met != 0) {
            return faulted(met);
        }
        fits.begin(0);
        for (int k = 0; k + y.size <= x.size; k++) {
            if (fitsAt(x, y, k, wild)) {
                fits.entries[fits.count] = k;
                fits.count++;
            }
        }
        return faultless(fits.count);
    }

    public int matchAt(int i) {
        return (int) fits.entryOr(i, NONE);
    }

    public int real(int a, int b) {
        if (!isPlace(a) || !isPlace(b)) {
            return faultless(UNKNOWN);
        }
        Row x = places[a];
        Row y = places[b];
        int met = faultOfPair(x, y, DOUBLES);
        if (met != 0) {
            return faulted(met);
        }
        reals.begin(x.size + y.size - 1);
        realProducts.multiplyRows(x, y, reals);
        return faultless(reals.count);
    }

    public long realAt(int i) {
        return reals.entryOr(i, NOT_A_NUMBER);
    }

    // ---- what is told

    public int fault() {
        return latestFault;
    }

    public int told(int what) {
        switch (what) {
            case 0:
                return spectrum.count;
            case 1:
                return spectrumPrime;
            case 2:
                return product.count;
            case 3:
                return residues.count;
            case 4:
                return rests.count;
            case 5:
                return fits.count;
            case 6:
                return reals.count;
            default:
                return OUTSIDE;
        }
    }

    // ---- what the calls share

    private static boolean isPlace(int p) {
        return p >= 0 && p < PLACES;
    }

    private static boolean isPrime(int prime) {
        return prime >= 0 && prime < PRIMES;
    }

    private static boolean isCount(int n) {
        return n >= 1 && n <= MOST_ENTRIES;
    }

    private static boolean isWay(int way) {
        return way >= PLAIN && way <= THREE_PRIMES;
    }

    /** Ends a call that names faults and came to none; a refusal is such an end, too. */
    private int faultless(int answer) {
        latestFault = 0;
        return answer;
    }

    private int faulted(int kindOfFault) {
        latestFault = kindOfFault;
        return -10 - kindOfFault;
    }

    private long faultedLong(int kindOfFault) {
        latestFault = kindOfFault;
        return 0;
    }

    private long entryOf(Row x, int i) {
        if (x == null) {
            return faultedLong(NULL);
        }
        if (!x.has(i)) {
            return faultedLong(INDEX);
        }
        latestFault = 0;
        return x.entries[i];
    }

    /** Which of NULL and CAST a row comes to, where lanes up to a last one are taken; 0: none. */
    private static int faultOf(Row x, int lastLane) {
        if (x == null) {
            return NULL;
        }
        return x.lane > lastLane ? CAST : 0;
    }

    /** As of one row; NULL of either is come to ahead of CAST. */
    private static int faultOfPair(Row x, Row y, int lastLane) {
        if (x == null || y == null) {
            return NULL;
        }
        return x.lane > lastLane || y.lane > lastLane ? CAST : 0;
    }

    private static boolean fitsAt(Row text, Row pattern, int k, long wild) {
        for (int i = 0; i < pattern.size; i++) {
            long sought = pattern.entries[i];
            long met = text.entries[k + i];
            if (sought != wild && met != wild && sought != met) {
                return false;
            }
        }
        return true;
    }

    private static int costOf(int way, int n, int m) {
        if (way == PLAIN) {
            return n * m;
        }
        int sums = n + m - 1;
        int exponent = exponentFor(sums);
        int length = 1 << exponent;
        int byOne = 3 * length * exponent / 2 + 2 * length;
        return way == ONE_PRIME ? byOne : 3 * byOne + 6 * sums;
    }

    /** The exponent of the least power of two that is not below n. */
    private static int exponentFor(int n) {
        int exponent = 0;
        while (exponent < 30 && 1 << exponent < n) {
            exponent++;
        }
        return exponent;
    }

    /** A row that places share; its entries are held as they are told. */
    private static final class Row {
        final int lane;
        final int size;
        final long[] entries;

        Row(int lane, int size) {
            this.lane = lane;
            this.size = size;
            this.entries = new long[size];
        }

        boolean has(int i) {
            return i >= 0 && i < size;
        }

        long narrowed(long v) {
            switch (lane) {
                case BYTES:
                    return (byte) v;
                case SHORTS:
                    return (short) v;
                case INTS:
                    return (int) v;
                case DOUBLES:
                    return Doubles.isNumber(v) ? v : NOT_A_NUMBER;
                default:
                    return v;
            }
        }

        /** The entries from a first to a last one, in the other order. */
        void flip(int from, int to) {
            for (int i = from, j = to; i < j; i++, j--) {
                long kept = entries[i];
                entries[i] = entries[j];
                entries[j] = kept;
            }
        }

        /** By three flips, which need no second row. */
        void turn(int k) {
            int first = Math.floorMod(k, size);
            flip(0, size - 1);
            flip(0, first - 1);
            flip(first, size - 1);
        }

        /** The entries over a prime, and 0s behind them. */
        void reduceInto(Field f, long[] into) {
            Arrays.fill(into, 0);
            for (int i = 0; i < size; i++) {
                into[i] = f.reduce(entries[i]);
            }
        }
    }

    /** Numbers that a call makes anew, in a row that is made once. */
    private static final class Numbers {
        final long[] entries;
        int count;

        Numbers(int room) {
            entries = new long[room];
            count = 0;
        }

        void begin(int n) {
            count = n;
            Arrays.fill(entries, 0);
        }

        long entryOr(int i, long otherwise) {
            return i >= 0 && i < count ? entries[i] : otherwise;
        }
    }

    /** A whole number of 128 bits, with sign. */
    private static final class Wide {
        private static final long LOWER_HALF = 0xffffffffL;

        long upper;
        long lower;

        void clear() {
            upper = 0;
            lower = 0;
        }

        void add(long v) {
            addParts(v >> 63, v);
        }

        void addParts(long moreUpper, long moreLower) {
            long sum = lower + moreLower;
            long carried = ((lower & moreLower) | ((lower | moreLower) & ~sum)) >>> 63;
            upper = upper + moreUpper + carried;
            lower = sum;
        }

        /** By halves of 32 bits, for the 128 bits of the whole product do not fit a long. */
        void addTimes(long v, int factor) {
            long byUpperHalf = (v >> 32) * factor;
            addParts(byUpperHalf >> 32, byUpperHalf << 32);
            add((v & LOWER_HALF) * factor);
        }

        boolean isZero() {
            return upper == 0 && lower == 0;
        }

        /** The last digit of a number that is not below 0; the digits ahead of it stay. */
        long takeDigit(int base) {
            long ahead = upper % base;
            upper = upper / base;
            long first = (ahead << 32) | (lower >>> 32);
            long second = ((first % base) << 32) | (lower & LOWER_HALF);
            lower = ((first / base) << 32) | (second / base);
            return second % base;
        }
    }

    /** Reckoning over a prime: what comes in and goes out is 0 .. p - 1, but for reduce. */
    private static final class Field {
        final long p;

        Field(long p) {
            this.p = p;
        }

        long reduce(long v) {
            return Math.floorMod(v, p);
        }

        long raise(long base, long exponent) {
            long raised = 1;
            long square = base;
            for (long left = exponent; left > 0; left >>= 1) {
                if ((left & 1) == 1) {
                    raised = raised * square % p;
                }
                square = square * square % p;
            }
            return raised;
        }

        long invert(long v) {
            return raise(v, p - 2);
        }

        boolean hasRoot(int n) {
            return n > 0 && (p - 1) % n == 0;
        }

        /** Asked only where hasRoot(n). */
        long rootFor(int n) {
            return n > 0 ? raise(3, (p - 1) / n) : 0;
        }
    }

    /** The transform by its plain sums, for rows whose length need not be a power of two. */
    private static final class Transformer {
        private final long[] source = new long[MOST_ENTRIES];
        private final long[] turns = new long[MOST_ENTRIES];

        void forward(Field f, Row x, long[] into) {
            prepare(f, x.entries, x.size, f.rootFor(x.size));
            for (int j = 0; j < x.size; j++) {
                into[j] = sumAt(f, x.size, j);
            }
        }

        void forwardTimes(Field f, Row x, long[] into) {
            prepare(f, x.entries, x.size, f.rootFor(x.size));
            for (int j = 0; j < x.size; j++) {
                into[j] = into[j] * sumAt(f, x.size, j) % f.p;
            }
        }

        void backward(Field f, long[] from, Row made) {
            long part = f.invert(made.size);
            prepare(f, from, made.size, f.invert(f.rootFor(made.size)));
            for (int j = 0; j < made.size; j++) {
                made.entries[j] = sumAt(f, made.size, j) * part % f.p;
            }
        }

        private void prepare(Field f, long[] from, int n, long w) {
            long turn = 1;
            for (int i = 0; i < n; i++) {
                source[i] = f.reduce(from[i]);
                turns[i] = turn;
                turn = turn * w % f.p;
            }
        }

        private long sumAt(Field f, int n, int j) {
            long sum = 0;
            int turn = 0;
            for (int i = 0; i < n; i++) {
                sum = (sum + source[i] * turns[turn]) % f.p;
                turn += j;
                if (turn >= n) {
                    turn -= n;
                }
            }
            return sum;
        }
    }

    /** Products over a prime by transforms of a length that is a power of two. */
    private static final class FastProducts {
        private final long[] left = new long[2 * MOST_ENTRIES];
        private final long[] right = new long[2 * MOST_ENTRIES];

        void multiplyRows(Field f, Row x, Row y, long[] into) {
            int sums = x.size + y.size - 1;
            int length = 1 << exponentFor(sums);
            long w = f.rootFor(length);
            x.reduceInto(f, left);
            y.reduceInto(f, right);
            spread(f, left, length, w);
            spread(f, right, length, w);
            for (int i = 0; i < length; i++) {
                left[i] = left[i] * right[i] % f.p;
            }
            spread(f, left, length, f.invert(w));
            long part = f.invert(length);
            for (int i = 0; i < sums; i++) {
                into[i] = left[i] * part % f.p;
            }
        }

        private static void spread(Field f, long[] row, int length, long w) {
            reorder(row, length);
            for (int half = 1; half < length; half *= 2) {
                long step = f.raise(w, length / (2 * half));
                for (int start = 0; start < length; start += 2 * half) {
                    crossOver(f, row, start, half, step);
                }
            }
        }

        private static void crossOver(Field f, long[] row, int start, int half, long step) {
            long turn = 1;
            for (int i = start; i < start + half; i++) {
                long one = row[i];
                long other = row[i + half] * turn % f.p;
                row[i] = (one + other) % f.p;
                row[i + half] = (one + f.p - other) % f.p;
                turn = turn * step % f.p;
            }
        }

        /** Entries change places with those whose index has the same bits the other way round. */
        private static void reorder(long[] row, int length) {
            int j = 0;
            for (int i = 0; i < length; i++) {
                if (i < j) {
                    long kept = row[i];
                    row[i] = row[j];
                    row[j] = kept;
                }
                int bit = length / 2;
                for (; bit > 0 && (j & bit) != 0; bit /= 2) {
                    j -= bit;
                }
                j += bit;
            }
        }
    }

    /** The product: exact whole numbers, by their upper and lower 64 bits. */
    private static final class Product {
        final long[] upper = new long[MOST_SUMS];
        final long[] lower = new long[MOST_SUMS];
        int count;

        private final Field first;
        private final Field second;
        private final Field third;
        private final FastProducts fast = new FastProducts();
        private final long[] overFirst = new long[MOST_SUMS];
        private final long[] overSecond = new long[MOST_SUMS];
        private final long[] overThird = new long[MOST_SUMS];
        private final Wide sum = new Wide();

        Product(Field first, Field second, Field third) {
            this.first = first;
            this.second = second;
            this.third = third;
            this.count = 0;
        }

        boolean has(int i) {
            return i >= 0 && i < count;
        }

        boolean hasNegative() {
            for (int i = 0; i < count; i++) {
                if (upper[i] < 0) {
                    return true;
                }
            }
            return false;
        }

        /** Asked by a quotient, for the product of all three may not fit a long. */
        boolean fitsOnePrime(Row x, Row y) {
            long shorter = Math.max(1, Math.min(x.size, y.size));
            return greatestSize(x) * greatestSize(y) <= (first.p - 1) / (2 * shorter);
        }

        private static long greatestSize(Row x) {
            long greatest = 0;
            for (int i = 0; i < x.size; i++) {
                greatest = Math.max(greatest, Math.abs(x.entries[i]));
            }
            return greatest;
        }

        void ofRows(Row x, Row y, int way) {
            count = x.size + y.size - 1;
            if (way == PLAIN) {
                byPlainSums(x, y);
            } else if (way == ONE_PRIME) {
                byOnePrime(x, y);
            } else {
                byThreePrimes(x, y);
            }
        }

        private void byPlainSums(Row x, Row y) {
            for (int k = 0; k < count; k++) {
                sum.clear();
                for (int i = Math.max(0, k - y.size + 1); i < x.size && i <= k; i++) {
                    sum.add(x.entries[i] * y.entries[k - i]);
                }
                keepSum(k);
            }
        }

        private void byOnePrime(Row x, Row y) {
            fast.multiplyRows(first, x, y, overFirst);
            for (int k = 0; k < count; k++) {
                sum.clear();
                sum.add(signed(overFirst[k], first));
                keepSum(k);
            }
        }

        /**
         * An entry is one + p1 * two + p1 * p2 * three, its parts found one after the other. Entries
         * are far below half the product of the primes, so the sign of the last part is theirs.
         */
        private void byThreePrimes(Row x, Row y) {
            fast.multiplyRows(first, x, y, overFirst);
            fast.multiplyRows(second, x, y, overSecond);
            fast.multiplyRows(third, x, y, overThird);
            long pair = first.p * second.p;
            long firstInSecond = second.invert(second.reduce(first.p));
            long pairInThird = third.invert(third.reduce(pair));
            for (int k = 0; k < count; k++) {
                long one = overFirst[k];
                long two = second.reduce(overSecond[k] - one) * firstInSecond % second.p;
                long known = one + first.p * two;
                long three = third.reduce(overThird[k] - third.reduce(known)) * pairInThird % third.p;
                sum.clear();
                sum.add(known);
                sum.addTimes(pair, (int) signed(three, third));
                keepSum(k);
            }
        }

        /** The number nearest to 0 that leaves this over a prime. */
        private static long signed(long v, Field f) {
            return 2 * v > f.p ? v - f.p : v;
        }

        void aroundCircle(Row x, Row y, int n) {
            count = n;
            for (int i = 0; i < n; i++) {
                sum.clear();
                for (int j = 0; j < x.size; j++) {
                    for (int k = Math.floorMod(i - j, n); k < y.size; k += n) {
                        sum.add(x.entries[j] * y.entries[k]);
                    }
                }
                keepSum(i);
            }
        }

        void alongRow(Row x, Row y) {
            count = x.size + y.size - 1;
            for (int i = 0; i < count; i++) {
                int ahead = i - (y.size - 1);
                sum.clear();
                for (int j = Math.max(0, -ahead); j < y.size && j + ahead < x.size; j++) {
                    sum.add(x.entries[j + ahead] * y.entries[j]);
                }
                keepSum(i);
            }
        }

        void ofWindows(Row x, int w) {
            count = Math.max(0, x.size - w + 1);
            for (int i = 0; i < count; i++) {
                sum.clear();
                for (int j = i; j < i + w; j++) {
                    sum.add(x.entries[j]);
                }
                keepSum(i);
            }
        }

        private void keepSum(int k) {
            upper[k] = sum.upper;
            lower[k] = sum.lower;
        }

        /** Tells how many digits the entries have to a base, none being below 0; writes the first. */
        int spell(int base, long[] digits) {
            int used = 1;
            sum.clear();
            for (int k = 0; k < MOST_DIGITS && (k < count || !sum.isZero()); k++) {
                if (k < count) {
                    sum.addParts(upper[k], lower[k]);
                }
                long digit = sum.takeDigit(base);
                if (k < digits.length) {
                    digits[k] = digit;
                }
                if (digit != 0) {
                    used = k + 1;
                }
            }
            return used;
        }
    }

    /** Rows as polynomials over a prime, entry k being of degree k. */
    private static final class Polynomials {
        private final long[] base = new long[MOST_ENTRIES];
        private final long[] helper = new long[MOST_ENTRIES];
        private final long[] whole = new long[MOST_ENTRIES + 1];

        void raise(Field f, Row x, int k, Numbers made) {
            x.reduceInto(f, base);
            made.entries[0] = 1;
            for (int left = k; left > 0; left >>= 1) {
                if ((left & 1) == 1) {
                    multiplyInto(f, made.entries, base, made.count);
                }
                multiplyInto(f, base, base, made.count);
            }
        }

        private void multiplyInto(Field f, long[] target, long[] factor, int n) {
            for (int k = 0; k < n; k++) {
                long sum = 0;
                for (int i = 0; i <= k; i++) {
                    sum = (sum + target[i] * factor[k - i]) % f.p;
                }
                helper[k] = sum;
            }
            System.arraycopy(helper, 0, target, 0, n);
        }

        void invert(Field f, Row x, Numbers made) {
            x.reduceInto(f, base);
            long first = f.invert(base[0]);
            made.entries[0] = first;
            for (int k = 1; k < made.count; k++) {
                long sum = 0;
                for (int i = 1; i <= k; i++) {
                    sum = (sum + base[i] * made.entries[k - i]) % f.p;
                }
                made.entries[k] = f.reduce(-sum) * first % f.p;
            }
        }

        /** The degree of a row over a prime; -1: all of it is 0 there. */
        static int degreeOf(Field f, Row x) {
            for (int i = x.size - 1; i >= 0; i--) {
                if (f.reduce(x.entries[i]) != 0) {
                    return i;
                }
            }
            return -1;
        }

        /** The rest has as many entries as the divisor's degree. */
        void split(Field f, Row x, Row y, Numbers quotient, Numbers rest) {
            int degree = rest.count;
            x.reduceInto(f, base);
            y.reduceInto(f, helper);
            long part = f.invert(helper[degree]);
            for (int k = quotient.count - 1; k >= 0; k--) {
                long fold = base[k + degree] * part % f.p;
                quotient.entries[k] = fold;
                for (int i = 0; i <= degree; i++) {
                    base[k + i] = f.reduce(base[k + i] - fold * helper[i]);
                }
            }
            System.arraycopy(base, 0, rest.entries, 0, degree);
        }

        void worth(Field f, Row x, Row points, Numbers made) {
            x.reduceInto(f, base);
            for (int i = 0; i < points.size; i++) {
                made.entries[i] = worthAt(f, base, x.size, f.reduce(points.entries[i]));
            }
        }

        private static long worthAt(Field f, long[] row, int n, long point) {
            long sum = 0;
            for (int i = n - 1; i >= 0; i--) {
                sum = (sum * point + row[i]) % f.p;
            }
            return sum;
        }

        static boolean hasTwins(Field f, Row points) {
            for (int i = 1; i < points.size; i++) {
                long point = f.reduce(points.entries[i]);
                for (int j = 0; j < i; j++) {
                    if (f.reduce(points.entries[j]) == point) {
                        return true;
                    }
                }
            }
            return false;
        }

        /** Each point adds what is 0 at all others and has the value that is due at it. */
        void through(Field f, Row points, Row values, Numbers made) {
            int n = points.size;
            points.reduceInto(f, base);
            multiplyFactors(f, n);
            for (int i = 0; i < n; i++) {
                leaveFactorOut(f, n, base[i]);
                long there = worthAt(f, helper, n, base[i]);
                long fold = f.reduce(values.entries[i]) * f.invert(there) % f.p;
                for (int k = 0; k < n; k++) {
                    made.entries[k] = (made.entries[k] + helper[k] * fold) % f.p;
                }
            }
        }

        /** The whole becomes the product of all factors that are 0 at one point. */
        private void multiplyFactors(Field f, int n) {
            Arrays.fill(whole, 0);
            whole[0] = 1;
            for (int i = 0; i < n; i++) {
                for (int k = i + 1; k > 0; k--) {
                    whole[k] = f.reduce(whole[k - 1] - whole[k] * base[i]);
                }
                whole[0] = f.reduce(-(whole[0] * base[i]));
            }
        }

        private void leaveFactorOut(Field f, int n, long point) {
            long above = 0;
            for (int k = n - 1; k >= 0; k--) {
                above = (whole[k + 1] + above * point) % f.p;
                helper[k] = above;
            }
        }
    }

    /** Doubles and their bits, by arithmetic alone: no act here gives what is not a number. */
    private static final class Doubles {
        private static final long SIGN = 1L << 63;
        private static final long INFINITE = 0x7ff0000000000000L;
        private static final long HIDDEN = 1L << 52;
        private static final int LEAST_EXPONENT = 1;
        private static final int WHOLE_EXPONENT = 1075;

        static boolean isNumber(long bits) {
            return (bits & ~SIGN) <= INFINITE;
        }

        static boolean isInfinite(double v) {
            return v > 1.7976931348623157E308 || v < -1.7976931348623157E308;
        }

        /** Asked of numbers alone. The bits of what is infinite give a scale that runs over to it. */
        static double fromBits(long bits) {
            int exponent = (int) ((bits & INFINITE) >>> 52);
            long fraction = bits & (HIDDEN - 1);
            double size;
            if (exponent < LEAST_EXPONENT) {
                size = scaled((double) fraction, LEAST_EXPONENT - WHOLE_EXPONENT);
            } else {
                size = scaled((double) (fraction | HIDDEN), exponent - WHOLE_EXPONENT);
            }
            return bits < 0 ? size * -1.0 : size;
        }

        /** Small steps come first, so that none on the way is rounded. */
        private static double scaled(double v, int exponent) {
            double result = v;
            double step = exponent < 0 ? 0.5 : 2.0;
            for (int left = Math.abs(exponent); left > 0; left >>= 1) {
                if ((left & 1) == 1) {
                    result = result * step;
                }
                step = step * step;
            }
            return result;
        }

        /** A 0 is told as 0.0, for a sum that begins with 0.0 never comes to -0.0. */
        static long toBits(double v) {
            if (v == 0.0) {
                return 0;
            }
            long sign = v < 0.0 ? SIGN : 0;
            return isInfinite(v) ? sign | INFINITE : sign | sizeBits(v < 0.0 ? v * -1.0 : v);
        }

        /** The size is brought to a whole number of 53 bits, or of fewer at the least exponent. */
        private static long sizeBits(double size) {
            double scaledSize = size;
            int exponent = WHOLE_EXPONENT;
            for (int step = 512; step > 0; step /= 2) {
                double up = scaled(1.0, step);
                double down = scaled(1.0, -step);
                if (scaledSize * down >= 4503599627370496.0) {
                    scaledSize = scaledSize * down;
                    exponent += step;
                }
                for (int i = 0; i < 2 && exponent - step >= LEAST_EXPONENT
                        && scaledSize * up < 9007199254740992.0; i++) {
                    scaledSize = scaledSize * up;
                    exponent -= step;
                }
            }
            long whole = (long) scaledSize;
            return whole < HIDDEN ? whole : ((long) exponent << 52) | (whole & (HIDDEN - 1));
        }
    }

    /** Products of doubles by plain sums, each act rounded by itself. */
    private static final class RealProducts {
        private final double[] left = new double[MOST_ENTRIES];
        private final double[] right = new double[MOST_ENTRIES];

        void multiplyRows(Row x, Row y, Numbers made) {
            load(x, left);
            load(y, right);
            for (int k = 0; k < made.count; k++) {
                made.entries[k] = sumAt(x, y, k);
            }
        }

        private static void load(Row x, double[] into) {
            for (int i = 0; i < x.size; i++) {
                if (isNumber(x, i)) {
                    into[i] = x.lane == DOUBLES ? Doubles.fromBits(x.entries[i]) : (double) x.entries[i];
                }
            }
        }

        private static boolean isNumber(Row x, int i) {
            return x.lane != DOUBLES || Doubles.isNumber(x.entries[i]);
        }

        private long sumAt(Row x, Row y, int k) {
            double sum = 0.0;
            for (int i = Math.max(0, k - y.size + 1); i < x.size && i <= k; i++) {
                if (!isNumber(x, i) || !isNumber(y, k - i) || !haveProduct(left[i], right[k - i])) {
                    return NOT_A_NUMBER;
                }
                double more = left[i] * right[k - i];
                if (!haveSum(sum, more)) {
                    return NOT_A_NUMBER;
                }
                sum = sum + more;
            }
            return Doubles.toBits(sum);
        }

        private static boolean haveProduct(double u, double v) {
            return !(Doubles.isInfinite(u) && v == 0.0) && !(Doubles.isInfinite(v) && u == 0.0);
        }

        private static boolean haveSum(double u, double v) {
            return !Doubles.isInfinite(u) || !Doubles.isInfinite(v) || (u > 0.0) == (v > 0.0);
        }
    }
}
