import java.io.IOException;
import java.nio.file.Files;
import java.nio.file.Path;
import java.util.List;
import java.util.regex.Matcher;
import java.util.regex.Pattern;

/** The edges that the document names, and that each word for one in each of its promises has an edge here. */
public final class EdgesTest {
    private static final List<String> WORDS =
        List.of("UNKNOWN", "OUTSIDE", "STATE", "FULL", "NULL", "CAST", "INDEX", "SIZE", "ZERO", "NONE");

    public static void main(String[] args) throws IOException {
        TermEdges.look();
        RowEdges.look();
        TransformEdges.look();
        ProductEdges.look();
        DigitEdges.look();
        PrimeEdges.look();
        FitEdges.look();
        ToldEdges.look();
        Path document = Path.of(args[0], "..", "shared", "DOC.md");
        if (Files.exists(document)) {
            eachWordIsSeen(Files.readString(document));
        } else {
            System.out.println("there is no " + document + ": its words are not looked for");
        }
        Check.end();
    }

    private static void eachWordIsSeen(String document) {
        Matcher promises = Pattern.compile("(?s)## Promise (\\d+): (\\w+).*?(?=\n## )").matcher(document);
        int met = 0;
        while (promises.find()) {
            met++;
            for (String word : WORDS) {
                if (Pattern.compile("\\b" + word + "\\b").matcher(promises.group()).find()) {
                    Check.holds("promise " + promises.group(1) + ", " + promises.group(2) + ": no edge for " + word,
                        Edge.isSeen(Integer.parseInt(promises.group(1)), word));
                }
            }
        }
        Check.due("how many promises there are", met, 36);
    }
}
