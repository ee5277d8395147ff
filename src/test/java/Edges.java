import java.util.ArrayList;
import java.util.LinkedHashMap;
import java.util.List;
import java.util.Map;

/**
 * All tests of sentences, most of which name an edge: each under the place in the document (I, II, III, IV of Terms, a
 * promise's number, or "use" and "face" ahead of them) and the sentence there, in the document's own words.
 */
final class Edges {
    interface Test {
        void stand(Edge on);
    }

    // The one sentence that is tested, null for all.
    private final String only;
    private final Map<String, List<String>> wrong = new LinkedHashMap<>();
    private final List<String[]> sentences = new ArrayList<>();
    private int asked;

    private Edges(String only) {
        this.only = only;
    }

    void of(String place, String sentence, Test test) {
        String name = place + ": " + sentence;
        if (only != null && !only.equals(name)) {
            return;
        }
        Edge on = new Edge();
        try {
            test.stand(on);
        } catch (RuntimeException | StackOverflowError e) {
            on.fail("threw " + e);
        }
        asked += on.asked();
        sentences.add(new String[] {place, sentence});
        if (wrong.put(name, on.wrong()) != null) {
            on.fail("the sentence has two tests");
        }
    }

    void of(int promise, String sentence, Test test) {
        of(String.valueOf(promise), sentence, test);
    }

    /** Runs the test of one sentence, by its name, or of all (null). */
    static Edges stood(String only) {
        Edges edges = new Edges(only);
        EdgesOfTown.all(edges);
        EdgesOfTexts.all(edges);
        EdgesOfWeeks.all(edges);
        EdgesOfPlans.all(edges);
        PlainOfTown.all(edges);
        PlainOfWeeks.all(edges);
        PlainOfPlans.all(edges);
        return edges;
    }

    /** Of each sentence, by its name, what was wrong. */
    Map<String, List<String>> wrong() {
        return wrong;
    }

    List<String[]> sentences() {
        return sentences;
    }

    int asked() {
        return asked;
    }
}
