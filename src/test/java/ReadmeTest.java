import java.io.IOException;
import java.net.URL;
import java.net.URLClassLoader;
import java.nio.file.Files;
import java.nio.file.Path;
import java.util.List;
import java.util.Map;
import java.util.Set;
import java.util.TreeMap;
import java.util.TreeSet;
import java.util.function.IntToLongFunction;
import java.util.function.Supplier;
import java.util.regex.Matcher;
import java.util.regex.Pattern;
import java.util.stream.Collectors;
import java.util.stream.IntStream;
import java.util.stream.Stream;
import javax.tools.ToolProvider;

/** README.md: its examples are compiled and asked; its tables are held against the class and against the tests. */
public final class ReadmeTest {
    private static final String BEGIN = "ConvolutionBench bench = new ConvolutionBench();";
    private static final Pattern BLOCK = Pattern.compile("(?s)```java\n(.*?)```");

    /** A call with its first argument; in the comment behind it the answer, at its end the entries that it made. */
    private static final Pattern CALL = Pattern.compile(
        "(.*\\bbench\\.(\\w+)\\((\\d*).*\\));\\s+// ([-\\w.]+)(?:: .*?(\\[[-\\d, ]*\\])?)?");

    private static final Map<String, Integer> CONSTANTS = new TreeMap<>(Map.of("UNKNOWN", ConvolutionBench.UNKNOWN,
        "OUTSIDE", ConvolutionBench.OUTSIDE, "STATE", ConvolutionBench.STATE, "FULL", ConvolutionBench.FULL,
        "NONE", ConvolutionBench.NONE));

    private ReadmeTest() { }

    public static void main(String[] args) throws IOException, ReflectiveOperationException {
        String readme = Files.readString(Path.of(args[0], "README.md"));
        Path tests = Path.of(args[0], "src", "test", "java");
        examples(readme);
        constants(readme);
        lanesAndPrimes(readme);
        Check.due("the tests that are named", found("`(\\w+Test)`", readme), filesOf("Test.java", tests));
        Check.due("the edges that are named", found("`(\\w+Edges)`", readme), filesOf("Edges.java", tests));
        Check.holds("how the tests are run", readme.contains("```sh\n.ci/run\n```"));
        Check.end();
    }

    // ---- examples

    private static void examples(String readme) throws IOException, ReflectiveOperationException {
        Set<String> calls = new TreeSet<>();
        Set<String> answers = new TreeSet<>();
        StringBuilder body = new StringBuilder();
        Matcher blocks = BLOCK.matcher(readme);
        while (blocks.find()) {
            String[] lines = blocks.group(1).split("\n");
            Check.due("an example begins", lines[0], BEGIN);
            Check.holds("an example of more calls than an object is good for", lines.length <= 512);
            body.append("        {\n            ").append(BEGIN).append('\n');
            for (int i = 1; i < lines.length; i++) {
                Matcher call = CALL.matcher(lines[i]);
                if (call.matches()) {
                    calls.add(call.group(2));
                    answers.add(call.group(4));
                    body.append(questions(call));
                } else {
                    Check.due("a line of an example that is no call with its answer", lines[i], "");
                }
            }
            body.append("        }\n");
        }
        Check.due("the calls that are shown", calls, Calls.namesOfFace());
        Check.holds("all words are shown", answers.containsAll(CONSTANTS.keySet()));
        compareAnswers(body.toString());
    }

    private static String questions(Matcher call) {
        String due = CONSTANTS.containsKey(call.group(4)) ? "ConvolutionBench." + call.group(4) : call.group(4);
        String text = question(call.group(1), call.group(1), due);
        if (call.group(5) != null) {
            String made = "ReadmeTest.entries(bench, \"" + call.group(2) + "\", " + call.group(3) + ")";
            text += question(call.group(1) + " makes what", made, "\"" + call.group(5) + "\"");
        }
        return text;
    }

    private static String question(String told, String asked, String due) {
        return "            rows.add(new Object[] {\"" + told + "\", " + asked + ", " + due + "});\n";
    }

    /** What a call made, or the row that it changed. It is public, for the examples ask it. */
    public static String entries(ConvolutionBench bench, String call, int place) {
        switch (call) {
            case "multiply", "circular", "correlate", "slide":
                return listed(bench.told(2), bench::low);
            case "power", "series", "divide", "evaluate", "interpolate":
                return listed(bench.told(3), bench::residue);
            case "match":
                return listed(bench.told(5), bench::matchAt);
            case "row", "put", "reverse", "shift", "inverse", "carry":
                return listed(bench.kind(place, 1), i -> bench.at(place, i));
            default:
                return call + " makes no entries";
        }
    }

    private static String listed(int n, IntToLongFunction entry) {
        return IntStream.range(0, n).mapToLong(entry).boxed().collect(Collectors.toList()).toString();
    }

    /** The examples as the body of a class: it is public, for another loader loads it. */
    private static void compareAnswers(String body) throws IOException, ReflectiveOperationException {
        String code = "import java.util.*;\n"
            + "public final class Examples implements java.util.function.Supplier<List<Object[]>> {\n"
            + "    public List<Object[]> get() {\n"
            + "        List<Object[]> rows = new ArrayList<>();\n" + body
            + "        return rows;\n"
            + "    }\n"
            + "}\n";
        Path room = Files.createTempDirectory("readme");
        Path source = Files.writeString(room.resolve("Examples.java"), code);
        Path made = room.resolve("Examples.class");
        int refused = ToolProvider.getSystemJavaCompiler().run(null, null, null, "-proc:none", "--release", "17",
            "-cp", System.getProperty("java.class.path"), "-d", room.toString(), source.toString());
        Check.due("what javac has against the examples", refused, 0);
        if (refused == 0) {
            try (URLClassLoader loader = new URLClassLoader(new URL[] {room.toUri().toURL()})) {
                Supplier<?> examples = (Supplier<?>) loader.loadClass("Examples").getConstructor().newInstance();
                for (Object row : (List<?>) examples.get()) {
                    compareAnswer((Object[]) row);
                }
            }
        }
        for (Path file : List.of(source, made, room)) {
            Files.deleteIfExists(file);
        }
    }

    private static void compareAnswer(Object[] row) {
        if (row[1] instanceof Integer || row[1] instanceof Long) {
            Check.due((String) row[0], ((Number) row[1]).longValue(), ((Number) row[2]).longValue());
        } else {
            Check.due((String) row[0], row[1], row[2]);
        }
    }

    // ---- tables

    private static void constants(String readme) {
        Map<String, Integer> seen = new TreeMap<>();
        Matcher rows = Pattern.compile("(?m)^\\| `([A-Z]+)` \\| (-\\d+) \\|").matcher(readme);
        while (rows.find()) {
            seen.put(rows.group(1), Integer.parseInt(rows.group(2)));
        }
        Check.due("the table of answers", seen, CONSTANTS);
    }

    private static void lanesAndPrimes(String readme) {
        List<String> lanes = List.of("bytes", "shorts", "ints", "longs", "doubles");
        Matcher rows = Pattern.compile("(?m)^\\| (\\d) \\| (\\w+) \\| (\\d*) ?\\|$").matcher(readme);
        int met = 0;
        while (rows.find()) {
            Check.due("the number of a lane", rows.group(1), String.valueOf(met));
            Check.due("the name of lane " + met, rows.group(2), lanes.get(met));
            Check.due("prime " + met, rows.group(3), primeTold(met));
            met++;
        }
        Check.due("how many lanes are told", met, lanes.size());
    }

    /** A prime is one above what -1 is over it. */
    private static String primeTold(int prime) {
        ConvolutionBench bench = new ConvolutionBench();
        Bench.fill(bench, 0, Bench.INTS, -1);
        return bench.transform(0, prime) == 1 ? String.valueOf(bench.value(0) + 1) : "";
    }

    private static Set<String> found(String pattern, String text) {
        return Pattern.compile(pattern).matcher(text).results()
            .map(result -> result.group(1)).collect(Collectors.toCollection(TreeSet::new));
    }

    private static Set<String> filesOf(String ending, Path folder) throws IOException {
        try (Stream<Path> files = Files.list(folder)) {
            return files.map(file -> file.getFileName().toString()).filter(name -> name.endsWith(ending))
                .map(name -> name.replace(".java", "")).collect(Collectors.toCollection(TreeSet::new));
        }
    }
}
