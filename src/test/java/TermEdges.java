/** Edges that the section 'Terms' names for all calls: entries, residues, what is made anew, costs. */
final class TermEdges {
    private static final long[][] RESIDUES = {
        // prime, a whole number, what it leaves
        {0, 0, 0}, {0, 1, 1}, {0, -1, 998244352}, {0, 998244352, 998244352}, {0, 998244353, 0}, {0, 998244354, 1},
        {0, -998244352, 1}, {0, -998244353, 0}, {0, -998244354, 998244352},
        {1, 1004535808, 1004535808}, {1, 1004535809, 0}, {1, -1004535809, 0}, {1, -1004535810, 1004535808}, {1, -1, 1004535808},
        {2, 469762048, 469762048}, {2, 469762049, 0}, {2, -469762049, 0}, {2, -469762050, 469762048}, {2, -1, 469762048},
        // The least and the greatest long: these were reckoned with whole numbers of any length.
        {0, Long.MIN_VALUE, 532218398}, {0, Long.MAX_VALUE, 466025954},
        {1, Long.MIN_VALUE, 231080748}, {1, Long.MAX_VALUE, 773455060},
        {2, Long.MIN_VALUE, 239674473}, {2, Long.MAX_VALUE, 230087575}};

    private TermEdges() { }

    static void look() {
        wholeEntries();
        doubleEntries();
        entriesAreZeroAtFirst();
        residuesOfATransform();
        residuesOfPolynomials();
        whatIsMadeAnewIsShorter();
        costsAboutPowersOfTwo();
        stateIsAskedBehindFaults();
    }

    private static void become(int lane, long v, long told) {
        ConvolutionBench b = Edge.with(lane, new long[] {9, 9, 9});
        Edge.on(b, 5, "an entry", 1, "put", 0, 1, v);
        Bench.dueRow("lane " + lane + " behind put " + v, b, 0, lane, 9, told, 9);
        Edge.on(b, 7, "an entry", told, "as", 0, 1, lane);
    }

    /** "others it, cast"; "others with their signs". */
    private static void wholeEntries() {
        long[] least = {Byte.MIN_VALUE, Short.MIN_VALUE, Integer.MIN_VALUE};
        long[] most = {Byte.MAX_VALUE, Short.MAX_VALUE, Integer.MAX_VALUE};
        for (int lane = 0; lane < 3; lane++) {
            long all = most[lane] - least[lane] + 1;
            become(lane, most[lane], most[lane]);
            become(lane, most[lane] + 1, least[lane]);
            become(lane, least[lane], least[lane]);
            become(lane, least[lane] - 1, most[lane]);
            become(lane, all - 1, -1);
            become(lane, all, 0);
            become(lane, -all, 0);
            become(lane, Long.MAX_VALUE, -1);
            become(lane, Long.MIN_VALUE, 0);
            become(lane, 0x7ff8000000000001L, 1);
        }
        become(3, Long.MAX_VALUE, Long.MAX_VALUE);
        become(3, Long.MIN_VALUE, Long.MIN_VALUE);
        become(3, 0x7ff0000000000001L, 0x7ff0000000000001L);
        become(3, -1, -1);
    }

    /** "a DOUBLE that of these BITS (of any that is not a number that of Double.NaN)". */
    private static void doubleEntries() {
        long[] numbers = {0, 1, Long.MIN_VALUE, Long.MIN_VALUE + 1, 0x000fffffffffffffL, 0x0010000000000000L,
            0x7fefffffffffffffL, 0x7ff0000000000000L, 0xffefffffffffffffL, 0xfff0000000000000L, 0x3ff0000000000000L};
        for (long bits : numbers) {
            become(4, bits, bits);
        }
        long[] none = {0x7ff0000000000001L, 0x7ff7ffffffffffffL, 0x7ff8000000000000L, 0x7ff8000000000001L, Long.MAX_VALUE,
            0xfff0000000000001L, 0xfff8000000000000L, -1};
        for (long bits : none) {
            become(4, bits, 0x7ff8000000000000L);
        }
    }

    /** "with n ENTRIES (1 .. 64), 0 at first". */
    private static void entriesAreZeroAtFirst() {
        for (int lane = 0; lane < 5; lane++) {
            for (int n : new int[] {1, 64}) {
                ConvolutionBench b = Edge.answered(2, 1, "row", 0, lane, n);
                Bench.dueRow("a new row", b, 0, lane, new long[n]);
            }
        }
    }

    /** "the RESIDUE of a whole number is what it leaves so (also one below 0)": one entry is its own transform. */
    private static void residuesOfATransform() {
        for (long[] due : RESIDUES) {
            ConvolutionBench b = Edge.with(3, new long[] {due[1]});
            Edge.on(b, 11, "a residue", 1, "transform", 0, due[0]);
            Bench.dueSpectrum("the residue of " + due[1], b, due[2]);
            Edge.on(b, 12, "a residue", 1, "times", 0);
            Bench.dueSpectrum("its square", b, due[2] * due[2] % Bench.PRIMES[(int) due[0]]);
        }
    }

    private static void residuesOfPolynomials() {
        for (long[] due : RESIDUES) {
            ConvolutionBench b = Edge.with(3, new long[] {due[1]}, new long[] {0}, new long[] {0, 1});
            Edge.on(b, 24, "a residue", 1, "power", 0, due[0], 1, 1);
            Bench.dueResidues("to the 1", b, due[2]);
            Edge.on(b, 27, "a residue", 1, "evaluate", 0, 1, due[0]);
            Bench.dueResidues("at 0", b, due[2]);
            Edge.on(b, 27, "a residue", 1, "evaluate", 2, 0, due[0]);
            Bench.dueResidues("a point", b, due[2]);
            Edge.on(b, 28, "a residue", 1, "interpolate", 1, 0, due[0]);
            Bench.dueResidues("through one point", b, due[2]);
            Edge.on(b, 26, "a residue", 0, "divide", 0, 2, due[0]);
            Bench.dueRests("a rest", b, due[2]);
        }
    }

    /** "What a call makes anew takes the place of what was there": nothing of a longer one is left behind it. */
    private static void whatIsMadeAnewIsShorter() {
        ConvolutionBench b = Edge.with(2, new long[] {1, 2, 3, 4}, new long[] {5}, new long[] {0, 0, 0, 0, 1});
        b.transform(0, 0);
        b.transform(1, 2);
        Bench.dueSpectrum("a shorter spectrum", b, 5);
        Check.due("its prime", b.told(1), 2);
        b.multiply(0, 0, 0);
        b.multiply(1, 1, 2);
        Bench.dueProduct("a shorter product", b, 25);
        b.multiply(0, 0, 0);
        b.slide(1, 2);
        Bench.dueProduct("a product of no entries", b);
        b.power(0, 0, 1, 6);
        b.evaluate(0, 1, 0);
        Bench.dueResidues("fewer residues", b, 586);
        b.divide(1, 0, 0);
        Bench.dueResidues("no residues", b);
        Bench.dueRests("the rests", b, 5, 0, 0);
        b.divide(0, 1, 0);
        Bench.dueRests("no rests", b);
        b.match(0, 1, 5);
        Bench.dueFits("all fits", b, 0, 1, 2, 3);
        b.match(0, 1, 4);
        Bench.dueFits("fewer fits", b, 3);
        b.match(0, 1, 9);
        Bench.dueFits("no fits", b);
        b.real(0, 0);
        b.real(1, 1);
        Bench.dueReals("fewer reals", b, 25);
    }

    /** "L the least power of two that is not below n + m - 1, and l its exponent". */
    private static void costsAboutPowersOfTwo() {
        long[][] due = {
            // n, m, n + m - 1 being 1, 2, 3, 4, 5, 8, 9, 16, 17, 32, 33, 64, 65, 127; L; l
            {1, 1, 1, 0}, {1, 2, 2, 1}, {2, 2, 4, 2}, {2, 3, 4, 2}, {3, 3, 8, 3}, {4, 5, 8, 3}, {5, 5, 16, 4}, {8, 9, 16, 4},
            {9, 9, 32, 5}, {16, 17, 32, 5}, {17, 17, 64, 6}, {32, 33, 64, 6}, {64, 1, 64, 6}, {33, 33, 128, 7}, {64, 2, 128, 7},
            {1, 64, 64, 6}, {2, 64, 128, 7}, {64, 64, 128, 7}};
        for (long[] d : due) {
            ConvolutionBench b = new ConvolutionBench();
            long one = 3 * d[2] * d[3] / 2 + 2 * d[2];
            Edge.on(b, 22, "COST", d[0] * d[1], "cost", 0, d[0], d[1]);
            Edge.on(b, 22, "COST", one, "cost", 1, d[0], d[1]);
            Edge.on(b, 22, "COST", 3 * one + 6 * (d[0] + d[1] - 1), "cost", 2, d[0], d[1]);
        }
    }

    /** "STATE that is told behind FAULTS is asked behind them": each call that tells both. */
    private static void stateIsAskedBehindFaults() {
        ConvolutionBench b = new ConvolutionBench();
        Bench.fill(b, 0, 4, 0, 0, 0);
        Bench.fill(b, 1, 2, 1 << 30, 1);
        Edge.on(b, 12, "NULL", -11, "times", 9);
        Edge.on(b, 12, "CAST", -12, "times", 0);
        Edge.on(b, 12, "STATE", -3, "times", 1);
        Edge.on(b, 11, "CAST", -12, "transform", 0, 0);
        Edge.on(b, 15, "CAST", -12, "multiply", 0, 1, 1);
        Edge.on(b, 15, "CAST", -12, "multiply", 1, 0, 1);
        Edge.on(b, 15, "NULL", -11, "multiply", 1, 9, 1);
        Edge.on(b, 15, "STATE", -3, "multiply", 1, 1, 1);
        Edge.on(b, 28, "CAST", -12, "interpolate", 0, 1, 0);
        Edge.on(b, 28, "CAST", -12, "interpolate", 1, 0, 0);
        Edge.on(b, 28, "NULL", -11, "interpolate", 1, 9, 0);
    }
}
