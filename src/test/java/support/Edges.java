import java.io.IOException;
import java.nio.file.Files;
import java.nio.file.Path;
import java.util.ArrayList;
import java.util.List;
import java.util.stream.Stream;

/** The files of src/test/edges: for words of the document, a run of calls, and how the class is broken against them. */
final class Edges {
    private static final Path FOLDER = Path.of("src/test/edges");

    private Edges() {
    }

    /** A break of the class: words of its source, the first ones behind the words of the scope, and others instead. */
    record Break(String scope, String old, String instead) {
        @Override
        public String toString() {
            return "[" + scope + "] " + old + " => " + instead;
        }
    }

    /** Words of a section of the document, with what holds by them. */
    static final class Edge {
        final String section;
        String quote;
        final StringBuilder calls = new StringBuilder();
        final List<Break> breaks = new ArrayList<>();

        Edge(String section, String quote) {
            this.section = section;
            this.quote = quote;
        }

        String name() {
            return section + ": " + quote;
        }

        List<Script.Step> steps() {
            return Script.steps(calls.toString());
        }
    }

    static List<Edge> read() throws IOException {
        List<Edge> edges = new ArrayList<>();
        try (Stream<Path> files = Files.list(FOLDER)) {
            for (Path file : files.filter(path -> path.toString().endsWith(".txt")).sorted().toList()) {
                readFile(file, edges);
            }
        }
        return edges;
    }

    private static void readFile(Path file, List<Edge> edges) throws IOException {
        String section = "";
        Edge edge = null;
        for (String line : Files.readAllLines(file)) {
            if (line.startsWith("== ")) {
                section = line.substring(3).trim();
                edge = null;
            } else if (line.startsWith("> ") && edge != null && edge.calls.length() == 0 && edge.breaks.isEmpty()) {
                edge.quote += " " + line.substring(2).trim();
            } else if (line.startsWith("> ")) {
                edge = new Edge(section, line.substring(2).trim());
                edges.add(edge);
            } else if (!line.isBlank() && !line.startsWith("#")) {
                readLine(file, edge, line);
            }
        }
    }

    private static void readLine(Path file, Edge edge, String line) {
        if (edge == null) {
            throw new IllegalArgumentException(file + ": before any words of the document: " + line);
        }
        if (!line.startsWith("! ")) {
            edge.calls.append(line).append('\n');
            return;
        }
        String[] sides = line.substring(2).split("=>", 2);
        if (sides.length != 2) {
            throw new IllegalArgumentException(file + ": not a break: " + line);
        }
        String old = sides[0].trim();
        int end = old.startsWith("[") ? old.indexOf(']') : 0;
        String scope = end > 0 ? old.substring(1, end) : "";
        edge.breaks.add(new Break(scope, old.substring(end > 0 ? end + 1 : 0).trim(), sides[1].trim()));
    }
}
