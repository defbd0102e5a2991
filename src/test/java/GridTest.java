import java.util.List;
import java.util.Map;

/**
 * Each call with all arguments about its edges, one with the other, in the known state and of a new object: the
 * answer, fault() and all that can be asked behind it are those of the reference.
 */
public final class GridTest {
    private static final int MIN = Integer.MIN_VALUE, MAX = Integer.MAX_VALUE;

    /** By what an argument is: the last ones inside, the first ones outside, the least and the greatest. */
    private static final Map<Character, long[]> VALUES = Map.of(
        'p', new long[] {MIN, -1, 0, 2, 3, 4, 5, 8, 10, 11, 12, MAX},
        'l', new long[] {MIN, -1, 0, 1, 2, 3, 4, 5, MAX},
        'n', new long[] {MIN, -1, 0, 1, 2, 3, 4, 5, 64, 65, MAX},
        'i', new long[] {MIN, -1, 0, 1, 3, 4, 5, 63, 64, 126, 127, MAX},
        'k', new long[] {MIN, -5, -4, -1, 0, 1, 4, 5, 64, MAX},
        'e', new long[] {MIN, -1, 0, 1, 2, 1000, 1001, MAX},
        'q', new long[] {MIN, -1, 0, 1, 2, 3, MAX},
        'w', new long[] {MIN, -1, 0, 1, 2, 3, MAX},
        'b', new long[] {MIN, 0, 1, 2, 10, 10000, 10001, MAX},
        'v', new long[] {Long.MIN_VALUE, MIN, -1, 0, 1, 128, MAX, Long.MAX_VALUE, 0x7ff0000000000001L});

    /** Each call, and what its arguments are. */
    private static final List<String> CALLS = List.of("row pln", "share pp", "kind pq", "put piv", "at pi", "as pil", "reverse p",
        "shift pk", "root qn", "transform pq", "times p", "value i", "inverse p", "multiply ppw", "circular ppn", "correlate pp",
        "slide pn", "high i", "low i", "carry pb", "cost wnn", "plan nn", "power pqen", "series pqn", "divide ppq",
        "evaluate ppq", "interpolate ppq", "residue i", "rest i", "match ppv", "matchAt i", "real pp", "realAt i", "fault ",
        "told l");

    /** Calls that lead from the known state to others, in which each call is asked, too. */
    private static final String[][] AHEAD = {{}, {"slide 11 1"}, {"slide 1 3", "divide 1 0 0", "match 1 0 0", "at 0 9"}};

    public static void main(String[] args) {
        Check.due("each call is there", CALLS.size(), 35);
        for (String call : CALLS) {
            int gap = call.indexOf(' ');
            Grid grid = new Grid(call.substring(0, gap), call.substring(gap + 1));
            grid.go(0);
        }
        Check.end();
    }

    private static final class Grid {
        private final String name;
        private final String kinds;
        private final long[] args;

        Grid(String name, String kinds) {
            this.name = name;
            this.kinds = kinds;
            this.args = new long[kinds.length()];
        }

        void go(int position) {
            if (position == args.length) {
                compareNew();
                for (String[] ahead : AHEAD) {
                    compareKnown(ahead);
                }
                return;
            }
            for (long value : VALUES.get(kinds.charAt(position))) {
                args[position] = value;
                go(position + 1);
            }
        }

        private void compareNew() {
            compare("of a new object", new ConvolutionBench(), new Reference());
        }

        private void compareKnown(String[] ahead) {
            ConvolutionBench bench = new ConvolutionBench();
            Reference reference = new Reference();
            KnownState.make(bench);
            KnownState.make(reference);
            for (String call : ahead) {
                Check.due(call, Calls.told(bench, call), Calls.told(reference, call));
            }
            compare("behind " + String.join(", ", ahead), bench, reference);
        }

        private void compare(String where, ConvolutionBench bench, Reference reference) {
            String call = Calls.text(name, args) + " " + where;
            Check.due(call, Calls.on(bench, name, args), Calls.on(reference, name, args));
            Check.due("fault() behind " + call, bench.fault(), reference.fault());
            Check.due("all behind " + call, KnownState.picture(bench), KnownState.picture(reference));
        }
    }
}
