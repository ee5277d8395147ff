import java.io.IOException;
import java.nio.file.Files;
import java.nio.file.Path;
import java.util.ArrayList;
import java.util.Arrays;
import java.util.List;
import java.util.Map;
import java.util.Set;
import java.util.TreeSet;

/** Runs the tests of the document's sentences, and holds the sentences that they name against the document. */
public final class EdgeTests {
    private static final List<String> PARTS = List.of("I", "II", "III", "IV");
    private static final String[] ENDS = {"==== II. ", "==== III. ", "==== IV. ", "The constants: "};

    // Headings, and what joins one sentence to another; text opens a block.
    private static final Set<String> JOINING = Set.of("text", "and", "or", "true", "of", "THE", "SHEET", "WIRE", "COINS", "OFFERS",
            "MADE", "SHARED", "HUNGRY", "BEST");

    private static int wrong;

    private EdgeTests() {
    }

    private static void fail(String what) {
        wrong++;
        System.out.println(what);
    }

    /** What stands in the document at a place: in a part of Terms, in a promise, in the face's constants, or ahead of Terms. */
    private static String at(String document, String place) {
        if (place.matches("\\d+")) {
            return ahead(behind(document, "## Promise " + place + ": "), "\n## ");
        }
        if (place.equals("face")) {
            return ahead(behind(document, "The constants: "), "\n## ");
        }
        int part = PARTS.indexOf(place);
        if (part < 0) {
            return ahead(document, "## Terms");
        }
        return ahead(behind(document, part == 0 ? "## Terms" : ENDS[part - 1]), ENDS[part]);
    }

    private static String behind(String text, String mark) {
        int at = text.indexOf(mark);
        return at < 0 ? "" : text.substring(at + mark.length());
    }

    private static String ahead(String text, String mark) {
        int at = text.indexOf(mark);
        return at < 0 ? text : text.substring(0, at);
    }

    private static void holdSentences(Edges edges, Path document) throws IOException {
        if (!Files.isRegularFile(document)) {
            System.out.println("without " + document + " the sentences aren't looked up");
            return;
        }
        String text = Files.readString(document);
        for (String[] s : edges.sentences()) {
            if (!at(text, s[0]).contains(s[1])) {
                fail("not in the document at " + s[0] + ": " + s[1]);
            }
        }
        holdWhole(edges, text);
    }

    /** What a place in the document tells: without signatures, and a promise without its name. */
    private static String told(String document, String place) {
        String text = at(document, place);
        return place.matches("\\d+") ? behind(text, "\n").replaceAll("`[^`]*`: ", "") : text;
    }

    /** Of each part and promise nothing but words that join stands outside of the sentences that have a test. */
    private static void holdWhole(Edges edges, String document) {
        List<String> places = new ArrayList<>(PARTS);
        places.add("face");
        for (int promise = 1; promise <= 44; promise++) {
            places.add(String.valueOf(promise));
        }
        for (String place : places) {
            char[] left = told(document, place).toCharArray();
            for (String[] s : edges.sentences()) {
                String text = told(document, place);
                int at = s[0].equals(place) ? text.indexOf(s[1]) : -1;
                for (; at >= 0; at = text.indexOf(s[1], at + 1)) {
                    Arrays.fill(left, at, at + s[1].length(), ' ');
                }
            }
            for (String word : new String(left).split("[^A-Za-z]+")) {
                if (!word.isEmpty() && !JOINING.contains(word)) {
                    fail("no test has the sentence of " + word + " at " + place);
                }
            }
        }
    }

    private static void holdPromises(Edges edges) {
        TreeSet<String> places = new TreeSet<>();
        for (String[] s : edges.sentences()) {
            places.add(s[0]);
        }
        for (int promise = 1; promise <= 44; promise++) {
            if (!places.contains(String.valueOf(promise))) {
                fail("no sentence of promise " + promise);
            }
        }
    }

    public static void main(String[] args) throws IOException {
        Edges edges = Edges.stood(null);
        for (Map.Entry<String, List<String>> of : edges.wrong().entrySet()) {
            for (String what : of.getValue()) {
                fail(of.getKey() + ": " + what);
            }
        }
        holdPromises(edges);
        holdSentences(edges, Path.of(System.getProperty("shared", "../shared"), "DOC.md"));
        System.out.println("EdgeTests: " + edges.sentences().size() + " sentences, " + edges.asked() + " answers, "
                + wrong + " wrong");
        if (wrong != 0) {
            System.exit(1);
        }
    }
}
