/** Promises 35 and 36: fault, told; and the constants. */
public final class ToldTest {
    public static void main(String[] args) {
        fault();
        faultIsGoneBehindAnAnswer();
        faultIsGoneBehindARefusal();
        told();
        constants();
        Check.end();
    }

    private static void fault() {
        ConvolutionBench b = new ConvolutionBench();
        Check.due("fault() ahead of any", b.fault(), 0);
        Bench.fill(b, 0, Bench.INTS, 1, 2);
        Bench.fill(b, 1, Bench.DOUBLES, 1, 2);
        Bench.fill(b, 2, Bench.BYTES, 0, 1);
        Check.due("at(5, 0)", b.at(5, 0), 0);
        Check.due("NULL", b.fault(), 1);
        Check.due("fault() asked again", b.fault(), 1);
        b.transform(1, 0);
        Check.due("CAST", b.fault(), 2);
        b.put(0, 2, 1);
        Check.due("INDEX", b.fault(), 3);
        b.row(0, 0, -5);
        Check.due("SIZE", b.fault(), 4);
        b.series(2, 0, 1);
        Check.due("ZERO", b.fault(), 5);
        askWhatNamesNone(b);
        Check.due("fault() behind calls that name none", b.fault(), 5);
        b.multiply(0, 0, 0);
        Check.due("fault() behind a call that came to none", b.fault(), 0);
        b.series(2, 0, 1);
        b.multiply(0, 0, 7);
        Check.due("fault() behind a call that was refused", b.fault(), 0);
        b.series(2, 0, 1);
        b.times(0);
        Check.due("fault() behind STATE", b.fault(), 0);
    }

    private static void gone(String call, ConvolutionBench b, boolean answered) {
        Check.holds(call + " is answered", answered);
        Check.due("fault() behind " + call, b.fault(), 0);
        b.at(11, 0);
        Check.due("fault() behind at(11, 0)", b.fault(), 1);
    }

    /** Each call that names faults and comes to none. */
    private static void faultIsGoneBehindAnAnswer() {
        ConvolutionBench b = new ConvolutionBench();
        Bench.fill(b, 0, Bench.INTS, 1, 2);
        b.at(11, 0);
        gone("row", b, b.row(1, 0, 2) == 1);
        gone("put", b, b.put(1, 0, 1) == 1);
        gone("at", b, b.at(1, 0) == 1);
        gone("as", b, b.as(1, 0, 0) == 1);
        gone("reverse", b, b.reverse(1) == 1);
        gone("shift", b, b.shift(1, 1) == 1);
        gone("root", b, b.root(0, 1) == 1);
        gone("transform", b, b.transform(0, 0) == 2);
        gone("times", b, b.times(0) == 2);
        gone("multiply", b, b.multiply(0, 0, 1) == 3);
        gone("circular", b, b.circular(0, 0, 2) == 2);
        gone("correlate", b, b.correlate(0, 0) == 3);
        gone("slide", b, b.slide(0, 1) == 2);
        gone("power", b, b.power(0, 0, 2, 3) == 3);
        gone("series", b, b.series(0, 0, 2) == 2);
        gone("divide", b, b.divide(0, 0, 0) == 1);
        gone("evaluate", b, b.evaluate(0, 0, 0) == 2);
        gone("interpolate", b, b.interpolate(0, 0, 0) == 2);
        gone("match", b, b.match(0, 0, 0) == 1);
        gone("real", b, b.real(0, 0) == 3);
    }

    /** Each call that names faults, refused because there is no such place or prime. */
    private static void faultIsGoneBehindARefusal() {
        ConvolutionBench b = new ConvolutionBench();
        b.at(11, 0);
        gone("row", b, b.row(12, 0, 2) == -1);
        gone("put", b, b.put(12, 0, 1) == -1);
        gone("at", b, b.at(12, 0) == 0);
        gone("as", b, b.as(12, 0, 0) == 0);
        gone("as", b, b.as(0, 0, 5) == 0);
        gone("reverse", b, b.reverse(12) == -1);
        gone("shift", b, b.shift(12, 1) == -1);
        gone("root", b, b.root(3, 1) == 0);
        gone("root", b, b.root(0, 0) == 0);
        gone("transform", b, b.transform(0, 3) == -1);
        gone("times", b, b.times(12) == -1);
        gone("multiply", b, b.multiply(0, 12, 1) == -1);
        gone("circular", b, b.circular(0, 12, 2) == -1);
        gone("correlate", b, b.correlate(0, 12) == -1);
        gone("slide", b, b.slide(12, 1) == -1);
        gone("power", b, b.power(0, 3, 2, 3) == -1);
        gone("series", b, b.series(0, 3, 2) == -1);
        gone("divide", b, b.divide(0, 0, 3) == -1);
        gone("evaluate", b, b.evaluate(0, 0, 3) == -1);
        gone("interpolate", b, b.interpolate(0, 0, 3) == -1);
        gone("match", b, b.match(0, 12, 0) == -1);
        gone("real", b, b.real(0, 12) == -1);
    }

    private static void askWhatNamesNone(ConvolutionBench b) {
        b.share(4, 0);
        b.share(12, 0);
        b.kind(0, 0);
        b.kind(12, 0);
        b.value(0);
        b.inverse(4);
        b.inverse(12);
        b.high(0);
        b.low(0);
        b.carry(4, 10);
        b.carry(12, 10);
        b.cost(0, 1, 1);
        b.cost(9, 1, 1);
        b.plan(1, 1);
        b.plan(0, 1);
        b.residue(0);
        b.rest(0);
        b.matchAt(0);
        b.realAt(0);
        b.told(0);
        b.told(9);
    }

    private static void dueTold(String what, ConvolutionBench b, int... want) {
        for (int i = 0; i < want.length; i++) {
            Check.due(what + ": told(" + i + ")", b.told(i), want[i]);
        }
        Check.due("told(7)", b.told(7), -2);
        Check.due("told(-1)", b.told(-1), -2);
        Check.due("told(MAX)", b.told(Integer.MAX_VALUE), -2);
    }

    private static void told() {
        ConvolutionBench b = new ConvolutionBench();
        dueTold("a new object", b, 0, -9, 0, 0, 0, 0, 0);
        Bench.fill(b, 0, Bench.INTS, 1, 2, 3, 4);
        Bench.fill(b, 1, Bench.INTS, 1, 1, 1);
        b.transform(0, 2);
        dueTold("transform", b, 4, 2, 0, 0, 0, 0, 0);
        b.multiply(0, 1, 0);
        dueTold("multiply", b, 4, 2, 6, 0, 0, 0, 0);
        b.divide(0, 1, 0);
        dueTold("divide", b, 4, 2, 6, 2, 2, 0, 0);
        b.match(0, 1, 1);
        dueTold("match", b, 4, 2, 6, 2, 2, 2, 0);
        b.real(0, 0);
        dueTold("real", b, 4, 2, 6, 2, 2, 2, 7);
        b.power(0, 1, 2, 5);
        dueTold("power", b, 4, 2, 6, 5, 2, 2, 7);
        b.circular(0, 0, 9);
        dueTold("circular", b, 4, 2, 9, 5, 2, 2, 7);
        b.transform(1, 1);
        dueTold("a refused transform", b, 4, 2, 9, 5, 2, 2, 7);
        b.row(2, 0, 1);
        b.transform(2, 1);
        dueTold("another transform", b, 1, 1, 9, 5, 2, 2, 7);
    }

    private static void constants() {
        Check.due("UNKNOWN", ConvolutionBench.UNKNOWN, -1);
        Check.due("OUTSIDE", ConvolutionBench.OUTSIDE, -2);
        Check.due("STATE", ConvolutionBench.STATE, -3);
        Check.due("FULL", ConvolutionBench.FULL, -4);
        Check.due("NONE", ConvolutionBench.NONE, -9);
    }
}
