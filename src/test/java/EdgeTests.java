import java.io.IOException;
import java.nio.file.Files;
import java.nio.file.Path;
import java.util.List;
import java.util.Map;
import java.util.TreeSet;

/** Runs the tests of edges, and holds the sentences that they name against the document. */
public final class EdgeTests {
    private static final List<String> PARTS = List.of("I", "II", "III", "IV");
    private static final String[] ENDS = {"==== II. ", "==== III. ", "==== IV. ", "The constants: "};

    private static int wrong;

    private EdgeTests() {
    }

    private static void fail(String what) {
        wrong++;
        System.out.println(what);
    }

    /** What stands in the document at a place: in a part of Terms, in a promise, or ahead of Terms. */
    private static String at(String document, String place) {
        if (place.matches("\\d+")) {
            return ahead(behind(document, "## Promise " + place + ": "), "\n## ");
        }
        int part = PARTS.indexOf(place);
        if (part < 0) {
            return ahead(document, "## Terms");
        }
        return ahead(behind(document, part == 0 ? "## Terms" : ENDS[part - 1]), ENDS[part]);
    }

    private static String behind(String text, String mark) {
        int at = text.indexOf(mark);
        return at < 0 ? "" : text.substring(at + mark.length());
    }

    private static String ahead(String text, String mark) {
        int at = text.indexOf(mark);
        return at < 0 ? text : text.substring(0, at);
    }

    private static void holdSentences(Edges edges, Path document) throws IOException {
        if (!Files.isRegularFile(document)) {
            System.out.println("without " + document + " the sentences aren't looked up");
            return;
        }
        String text = Files.readString(document);
        for (String[] s : edges.sentences()) {
            if (!at(text, s[0]).contains(s[1])) {
                fail("not in the document at " + s[0] + ": " + s[1]);
            }
        }
    }

    private static void holdPromises(Edges edges) {
        TreeSet<String> places = new TreeSet<>();
        for (String[] s : edges.sentences()) {
            places.add(s[0]);
        }
        for (int promise = 1; promise <= 44; promise++) {
            if (!places.contains(String.valueOf(promise))) {
                fail("no edge of promise " + promise);
            }
        }
    }

    public static void main(String[] args) throws IOException {
        Edges edges = Edges.stood(null);
        for (Map.Entry<String, List<String>> of : edges.wrong().entrySet()) {
            for (String what : of.getValue()) {
                fail(of.getKey() + ": " + what);
            }
        }
        holdPromises(edges);
        holdSentences(edges, Path.of(System.getProperty("shared", "../shared"), "DOC.md"));
        System.out.println("EdgeTests: " + edges.sentences().size() + " sentences, " + edges.asked() + " answers, "
                + wrong + " wrong");
        if (wrong != 0) {
            System.exit(1);
        }
    }
}
