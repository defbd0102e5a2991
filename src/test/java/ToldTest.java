/** Promises 35 and 36: fault, told; and the constants. */
public final class ToldTest {
    public static void main(String[] args) {
        fault();
        told();
        constants();
        Check.end();
    }

    private static void fault() {
        ConvolutionBench b = new ConvolutionBench();
        Check.due("fault() ahead of any", b.fault(), 0);
        Bench.fill(b, 0, Bench.INTS, 1, 2);
        Bench.fill(b, 1, Bench.DOUBLES, 1, 2);
        Bench.fill(b, 2, Bench.BYTES, 0, 1);
        Check.due("at(5, 0)", b.at(5, 0), 0);
        Check.due("NULL", b.fault(), 1);
        Check.due("fault() asked again", b.fault(), 1);
        b.transform(1, 0);
        Check.due("CAST", b.fault(), 2);
        b.put(0, 2, 1);
        Check.due("INDEX", b.fault(), 3);
        b.row(0, 0, -5);
        Check.due("SIZE", b.fault(), 4);
        b.series(2, 0, 1);
        Check.due("ZERO", b.fault(), 5);
        askWhatNamesNone(b);
        Check.due("fault() behind calls that name none", b.fault(), 5);
        b.multiply(0, 0, 0);
        Check.due("fault() behind a call that came to none", b.fault(), 0);
        b.series(2, 0, 1);
        b.multiply(0, 0, 7);
        Check.due("fault() behind a call that was refused", b.fault(), 0);
        b.series(2, 0, 1);
        b.times(0);
        Check.due("fault() behind STATE", b.fault(), 0);
    }

    private static void askWhatNamesNone(ConvolutionBench b) {
        b.share(4, 0);
        b.share(12, 0);
        b.kind(0, 0);
        b.kind(12, 0);
        b.value(0);
        b.inverse(4);
        b.inverse(12);
        b.high(0);
        b.low(0);
        b.carry(4, 10);
        b.carry(12, 10);
        b.cost(0, 1, 1);
        b.cost(9, 1, 1);
        b.plan(1, 1);
        b.plan(0, 1);
        b.residue(0);
        b.rest(0);
        b.matchAt(0);
        b.realAt(0);
        b.told(0);
        b.told(9);
    }

    private static void dueTold(String what, ConvolutionBench b, int... want) {
        for (int i = 0; i < want.length; i++) {
            Check.due(what + ": told(" + i + ")", b.told(i), want[i]);
        }
        Check.due("told(7)", b.told(7), -2);
        Check.due("told(-1)", b.told(-1), -2);
        Check.due("told(MAX)", b.told(Integer.MAX_VALUE), -2);
    }

    private static void told() {
        ConvolutionBench b = new ConvolutionBench();
        dueTold("a new object", b, 0, -9, 0, 0, 0, 0, 0);
        Bench.fill(b, 0, Bench.INTS, 1, 2, 3, 4);
        Bench.fill(b, 1, Bench.INTS, 1, 1, 1);
        b.transform(0, 2);
        dueTold("transform", b, 4, 2, 0, 0, 0, 0, 0);
        b.multiply(0, 1, 0);
        dueTold("multiply", b, 4, 2, 6, 0, 0, 0, 0);
        b.divide(0, 1, 0);
        dueTold("divide", b, 4, 2, 6, 2, 2, 0, 0);
        b.match(0, 1, 1);
        dueTold("match", b, 4, 2, 6, 2, 2, 2, 0);
        b.real(0, 0);
        dueTold("real", b, 4, 2, 6, 2, 2, 2, 7);
        b.power(0, 1, 2, 5);
        dueTold("power", b, 4, 2, 6, 5, 2, 2, 7);
        b.circular(0, 0, 9);
        dueTold("circular", b, 4, 2, 9, 5, 2, 2, 7);
        b.transform(1, 1);
        dueTold("a refused transform", b, 4, 2, 9, 5, 2, 2, 7);
        b.row(2, 0, 1);
        b.transform(2, 1);
        dueTold("another transform", b, 1, 1, 9, 5, 2, 2, 7);
    }

    private static void constants() {
        Check.due("UNKNOWN", ConvolutionBench.UNKNOWN, -1);
        Check.due("OUTSIDE", ConvolutionBench.OUTSIDE, -2);
        Check.due("STATE", ConvolutionBench.STATE, -3);
        Check.due("FULL", ConvolutionBench.FULL, -4);
        Check.due("NONE", ConvolutionBench.NONE, -9);
    }
}
