import java.io.IOException;
import java.util.List;
import java.util.Map;

/** Each sentence of the document has runs of its own in src/test/edges, and they answer as it says. */
public final class EdgeTest {
    public static void main(String[] args) throws IOException {
        List<Edges.Edge> edges = Edges.read();
        Map<String, List<String>> sections = Document.sections();
        edges.forEach(edge -> checkQuote(edge, sections.getOrDefault(edge.section, List.of())));
        sections.forEach((section, sentences) -> checkSentences(section, sentences, edges));
        edges.forEach(edge -> Script.run(edge.name(), edge.calls.toString()));
        System.out.println(edges.size() + " edges of the document");
        Script.end();
    }

    private static void checkQuote(Edges.Edge edge, List<String> sentences) {
        if (sentences.stream().noneMatch(sentence -> sentence.contains(edge.quote))) {
            Script.fault("the document does not say it: " + edge.name());
        }
        if (edge.steps().isEmpty() || edge.breaks.isEmpty()) {
            Script.fault("no calls or no break: " + edge.name());
        }
    }

    private static void checkSentences(String section, List<String> sentences, List<Edges.Edge> edges) {
        for (String sentence : sentences) {
            if (edges.stream().noneMatch(edge -> edge.section.equals(section) && sentence.contains(edge.quote))) {
                Script.fault("no edge of " + section + ": " + sentence);
            }
        }
    }
}
