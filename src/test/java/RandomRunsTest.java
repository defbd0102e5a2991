import java.util.Random;

/** Runs of random calls, each answered by the class and by the reference; all that can be asked is compared. */
public final class RandomRunsTest {
    private static final int RUNS = 1200;
    private static final int CALLS = 140;
    private static final int KINDS = 23;

    private final Random random;
    private final ConvolutionBench bench = new ConvolutionBench();
    private final Reference reference = new Reference();
    private final int run;
    private final int longest;
    private final int[] answered = new int[KINDS];

    private RandomRunsTest(int run) {
        this.run = run;
        this.random = new Random(run);
        this.longest = run % 8 == 0 ? 64 : 9;
    }

    public static void main(String[] args) {
        int[] answered = new int[KINDS];
        for (int run = 0; run < RUNS; run++) {
            RandomRunsTest one = new RandomRunsTest(run);
            for (int call = 0; call < CALLS; call++) {
                one.step();
            }
            one.compareAll();
            for (int kind = 0; kind < KINDS; kind++) {
                answered[kind] += one.answered[kind];
            }
        }
        for (int kind = 0; kind < KINDS; kind++) {
            Check.holds("kind " + kind + " of call was answered only " + answered[kind] + " times", answered[kind] > 300);
        }
        Check.end();
    }

    private int any(int below) {
        return random.nextInt(below);
    }

    /** Mostly a place that is likely to have a row. */
    private int place() {
        int dice = any(60);
        return dice == 0 ? 12 : dice == 1 ? -1 : dice < 5 ? any(12) : any(7);
    }

    private int prime() {
        return any(40) == 0 ? any(7) - 2 : any(3);
    }

    private int count() {
        int dice = any(40);
        return dice == 0 ? 0 : dice == 1 ? 65 : dice == 2 ? -1 - any(100) : dice < 6 ? 1 + any(64) : 1 + any(longest);
    }

    private int index() {
        return any(30) == 0 ? any(140) - 8 : any(longest);
    }

    private long number() {
        switch (any(9)) {
            case 0: return random.nextLong();
            case 1: return random.nextInt();
            case 2: return any(2) == 0 ? Integer.MIN_VALUE : Long.MIN_VALUE;
            case 3: return Bench.PRIMES[any(3)] * (any(5) - 2);
            case 4: return Double.doubleToLongBits(random.nextGaussian());
            case 5: return Double.doubleToLongBits(any(2) == 0 ? Double.POSITIVE_INFINITY : -0.0);
            case 6: return any(100);
            default: return any(7) - 3;
        }
    }

    private void step() {
        if (any(3) == 0) {
            fillRow();
            return;
        }
        int kind = any(KINDS);
        int p = place();
        int q = place();
        switch (kind) {
            case 0: {
                int lane = any(30) == 0 ? any(9) - 2 : any(5);
                int n = count();
                due(kind, "row " + p + " " + lane + " " + n, bench.row(p, lane, n), reference.row(p, lane, n));
                break;
            }
            case 1:
                due(kind, "share " + p + " " + q, bench.share(p, q), reference.share(p, q));
                break;
            case 2: {
                int i = index();
                long v = number();
                due(kind, "put " + p + " " + i + " " + v, bench.put(p, i, v), reference.put(p, i, v));
                break;
            }
            case 3: {
                int i = index();
                due(kind, "at " + p + " " + i, bench.at(p, i), reference.at(p, i));
                break;
            }
            case 4: {
                int i = index();
                int lane = any(30) == 0 ? any(9) - 2 : any(5);
                due(kind, "as " + p + " " + i + " " + lane, bench.as(p, i, lane), reference.as(p, i, lane));
                break;
            }
            case 5:
                due(kind, "reverse " + p, bench.reverse(p), reference.reverse(p));
                break;
            case 6: {
                int k = any(3) == 0 ? random.nextInt() : any(20) - 10;
                due(kind, "shift " + p + " " + k, bench.shift(p, k), reference.shift(p, k));
                break;
            }
            case 7: {
                int prime = prime();
                int n = count();
                due(kind, "root " + prime + " " + n, bench.root(prime, n), reference.root(prime, n));
                break;
            }
            default:
                stepOn(kind, p, q);
                break;
        }
    }

    private void stepOn(int kind, int p, int q) {
        int prime = prime();
        int n = count();
        switch (kind) {
            case 8:
                due(kind, "transform " + p + " " + prime, bench.transform(p, prime), reference.transform(p, prime));
                break;
            case 9:
                due(kind, "times " + p, bench.times(p), reference.times(p));
                break;
            case 10:
                due(kind, "inverse " + p, bench.inverse(p), reference.inverse(p));
                break;
            case 11: {
                int way = any(40) == 0 ? any(9) - 3 : any(3);
                due(kind, "multiply " + p + " " + q + " " + way, bench.multiply(p, q, way), reference.multiply(p, q, way));
                break;
            }
            case 12:
                due(kind, "circular " + p + " " + q + " " + n, bench.circular(p, q, n), reference.circular(p, q, n));
                break;
            case 13:
                due(kind, "correlate " + p + " " + q, bench.correlate(p, q), reference.correlate(p, q));
                break;
            case 14:
                due(kind, "slide " + p + " " + n, bench.slide(p, n), reference.slide(p, n));
                break;
            case 15: {
                int base = any(10) == 0 ? any(4) : any(10) == 0 ? 9998 + any(5) : 2 + any(300);
                due(kind, "carry " + p + " " + base, bench.carry(p, base), reference.carry(p, base));
                break;
            }
            case 16: {
                int k = any(40) == 0 ? any(3) * 1001 - 1001 : any(12);
                due(kind, "power " + p + " " + prime + " " + k + " " + n,
                    bench.power(p, prime, k, n), reference.power(p, prime, k, n));
                break;
            }
            case 17:
                due(kind, "series " + p + " " + prime + " " + n, bench.series(p, prime, n), reference.series(p, prime, n));
                break;
            case 18:
                due(kind, "divide " + p + " " + q + " " + prime, bench.divide(p, q, prime), reference.divide(p, q, prime));
                break;
            case 19:
                due(kind, "evaluate " + p + " " + q + " " + prime,
                    bench.evaluate(p, q, prime), reference.evaluate(p, q, prime));
                break;
            case 20:
                due(kind, "interpolate " + p + " " + q + " " + prime,
                    bench.interpolate(p, q, prime), reference.interpolate(p, q, prime));
                break;
            case 21: {
                long wild = any(7) - 3;
                due(kind, "match " + p + " " + q + " " + wild, bench.match(p, q, wild), reference.match(p, q, wild));
                break;
            }
            default:
                due(kind, "real " + p + " " + q, bench.real(p, q), reference.real(p, q));
                break;
        }
    }

    /** A row with points that are all different, or with any entries. */
    private void fillRow() {
        int p = any(7);
        int lane = any(12) == 0 ? 4 : any(4);
        int n = any(3) == 0 ? 1 << any(longest > 9 ? 7 : 4) : 1 + any(longest);
        boolean rising = any(3) == 0;
        due(0, "row " + p + " " + lane + " " + n, bench.row(p, lane, n), reference.row(p, lane, n));
        boolean small = any(2) == 0;
        for (int i = 0; i < n; i++) {
            long v = rising ? 3 * i - 9 : small ? any(5) - 1 : number();
            due(2, "put " + p + " " + i + " " + v, bench.put(p, i, v), reference.put(p, i, v));
        }
    }

    private void due(int kind, String call, long got, long want) {
        Check.due("run " + run + ": " + call, got, want);
        Check.due("run " + run + ": fault() behind " + call, bench.fault(), reference.fault());
        if (want >= 0 && reference.fault() == 0) {
            answered[kind]++;
        }
        if (any(12) == 0) {
            compareAll();
        }
    }

    private void compareAll() {
        String where = "run " + run + ": ";
        for (int what = -1; what <= 7; what++) {
            Check.due(where + "told " + what, bench.told(what), reference.told(what));
        }
        for (int i = -1; i <= longest * 2 + 1; i++) {
            Check.due(where + "value " + i, bench.value(i), reference.value(i));
            Check.due(where + "high " + i, bench.high(i), reference.high(i));
            Check.due(where + "low " + i, bench.low(i), reference.low(i));
            Check.due(where + "residue " + i, bench.residue(i), reference.residue(i));
            Check.due(where + "rest " + i, bench.rest(i), reference.rest(i));
            Check.due(where + "matchAt " + i, bench.matchAt(i), reference.matchAt(i));
            Check.due(where + "realAt " + i, bench.realAt(i), reference.realAt(i));
        }
        Check.due(where + "fault", bench.fault(), reference.fault());
        for (int p = -1; p <= 12; p++) {
            Check.due(where + "lane of " + p, bench.kind(p, 0), reference.kind(p, 0));
            Check.due(where + "size of " + p, bench.kind(p, 1), reference.kind(p, 1));
            for (int i = 0; i < bench.kind(p, 1); i++) {
                Check.due(where + "at " + p + " " + i, bench.at(p, i), reference.at(p, i));
            }
        }
    }
}
