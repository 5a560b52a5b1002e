import java.io.IOException;
import java.nio.file.Files;
import java.nio.file.Path;
import java.util.ArrayList;
import java.util.LinkedHashMap;
import java.util.List;
import java.util.Map;

/** The sentences of ../shared/DOC.md, by section. */
final class Document {
    private static final Path DOCUMENT = Path.of("../shared/DOC.md");

    private Document() {
    }

    /** What a section says: of the terms each sentence, of a promise each paragraph and each row. */
    static Map<String, List<String>> sections() throws IOException {
        Map<String, List<String>> sections = new LinkedHashMap<>();
        for (String text : Files.readString(DOCUMENT).split("\n## ")) {
            String title = text.lines().findFirst().orElse("").trim();
            if (title.equals("Terms") || title.startsWith("Promise ")) {
                sections.put(title, sentences(text.substring(text.indexOf('\n')), title.equals("Terms")));
            }
        }
        return sections;
    }

    private static List<String> sentences(String text, boolean isTerms) {
        List<String> sentences = new ArrayList<>();
        for (String paragraph : text.split("\n\n|\n(?=- )")) {
            String line = paragraph.trim().replaceAll("\\s+", " ");
            for (String sentence : isTerms ? line.split("(?<=\\.) (?=[A-Z])") : new String[] {line}) {
                if (isSaying(sentence)) {
                    sentences.add(sentence);
                }
            }
        }
        return sentences;
    }

    /** Two words are a heading, and in which part of the interface a call stands is no promise of its own. */
    private static boolean isSaying(String sentence) {
        return sentence.split(" ").length > 2 && !sentence.startsWith("Ahead of the calls");
    }
}
