import java.util.LinkedHashMap;
import java.util.Map;
import java.util.Random;

/**
 * Runs of random calls, each answered by the class and by the reference. A run has the 512 calls that an object
 * is good for: the first ones make things, the last ones ask what there is.
 */
public final class RandomRunsTest {
    private static final int RUNS = 5000;
    private static final int CALLS = 512;
    private static final int QUESTIONS = 200;

    /** The calls, and what their arguments are. */
    private static final String[] MAKING = {"row pln", "share pp", "put piv", "at pi", "as pil", "reverse p", "shift pk", "root qn",
        "transform pq", "times p", "inverse p", "multiply ppw", "circular ppn", "correlate pp", "slide pn", "carry pb",
        "power pqen", "series pqn", "divide ppq", "evaluate ppq", "interpolate ppq", "match ppv", "real pp", "cost wnn", "plan nn"};

    /** What asks for entries, and what told() counts them by. */
    private static final String[] ASKING = {"value 0", "high 2", "low 2", "residue 3", "rest 4", "matchAt 5", "realAt 6"};

    private static final Map<String, Integer> ANSWERED = new LinkedHashMap<>();

    private final Random random;
    private final ConvolutionBench bench = new ConvolutionBench();
    private final Reference reference = new Reference();
    private final int run;
    private final int longest;
    private int calls = 0;

    private RandomRunsTest(int run) {
        this.run = run;
        this.random = new Random(run);
        this.longest = run % 8 == 0 ? 64 : 9;
    }

    public static void main(String[] args) {
        for (int run = 0; run < RUNS; run++) {
            new RandomRunsTest(run).go();
        }
        for (String call : MAKING) {
            String name = call.substring(0, call.indexOf(' '));
            int times = ANSWERED.getOrDefault(name, 0);
            Check.holds(name + " was answered only " + times + " times", times > 300);
        }
        Check.end();
    }

    private void go() {
        while (calls + 1 + longest < CALLS - QUESTIONS) {
            if (any(8) == 0) {
                fillRow();
            } else {
                makeSomething();
            }
        }
        while (calls < CALLS) {
            askSomething();
        }
    }

    private int any(int below) {
        return random.nextInt(below);
    }

    private long due(String name, long... args) {
        calls++;
        long want = Calls.on(reference, name, args);
        Check.due("run " + run + ", call " + calls + ": " + Calls.text(name, args), Calls.on(bench, name, args), want);
        return want;
    }

    private void makeSomething() {
        String call = MAKING[any(MAKING.length)];
        int gap = call.indexOf(' ');
        String name = call.substring(0, gap);
        long[] args = new long[call.length() - gap - 1];
        for (int i = 0; i < args.length; i++) {
            args[i] = argument(call.charAt(gap + 1 + i));
        }
        long want = due(name, args);
        if (due("fault") == 0 && want >= 0) {
            ANSWERED.merge(name, 1, Integer::sum);
        }
    }

    private long argument(char kind) {
        switch (kind) {
            case 'p':
                return any(30) == 0 ? (any(2) == 0 ? 12 : -1) : any(20) == 0 ? any(12) : any(7);
            case 'l':
                return any(30) == 0 ? any(9) - 2 : any(5);
            case 'q':
                return any(40) == 0 ? any(7) - 2 : any(3);
            case 'w':
                return any(40) == 0 ? any(9) - 3 : any(3);
            case 'n':
                return any(13) == 0 ? new int[] {0, 65, -1 - any(100)}[any(3)] : 1 + any(any(13) == 0 ? 64 : longest);
            case 'i':
                return any(30) == 0 ? any(140) - 8 : any(longest);
            case 'k':
                return any(3) == 0 ? random.nextInt() : any(20) - 10;
            case 'e':
                return any(40) == 0 ? any(3) * 1001 - 1001 : any(12);
            case 'b':
                return any(10) == 0 ? any(4) : any(10) == 0 ? 9998 + any(5) : 2 + any(300);
            default:
                return number();
        }
    }

    private long number() {
        switch (any(9)) {
            case 0:
                return random.nextLong();
            case 1:
                return random.nextInt();
            case 2:
                return any(2) == 0 ? Integer.MIN_VALUE : Long.MIN_VALUE;
            case 3:
                return Bench.PRIMES[any(3)] * (any(5) - 2);
            case 4:
                return Double.doubleToLongBits(random.nextGaussian());
            case 5:
                return Double.doubleToLongBits(any(2) == 0 ? Double.POSITIVE_INFINITY : -0.0);
            case 6:
                return any(100);
            default:
                return any(7) - 3;
        }
    }

    /** A row with points that are all different, or with any entries. */
    private void fillRow() {
        int p = any(7);
        int lane = any(12) == 0 ? 4 : any(4);
        int n = any(3) == 0 ? 1 << any(longest > 9 ? 7 : 4) : 1 + any(longest);
        boolean rising = any(3) == 0;
        boolean small = any(2) == 0;
        due("row", p, lane, n);
        for (int i = 0; i < n; i++) {
            due("put", p, i, rising ? 3 * i - 9 : small ? any(5) - 1 : number());
        }
    }

    private void askSomething() {
        int dice = any(16);
        if (dice == 0) {
            due("told", any(9) - 1);
        } else if (dice == 1) {
            due("kind", any(14) - 1, any(2));
        } else if (dice < 6) {
            int p = any(12);
            due("at", p, any((int) Math.max(0, reference.kind(p, 1)) + 2) - 1);
        } else if (dice == 6) {
            due("fault");
        } else {
            String[] asked = ASKING[any(ASKING.length)].split(" ");
            due(asked[0], any((int) reference.told(Integer.parseInt(asked[1])) + 2) - 1);
        }
    }
}
