import java.io.IOException;
import java.nio.file.Files;
import java.nio.file.Path;
import java.util.ArrayList;
import java.util.LinkedHashMap;
import java.util.List;
import java.util.Map;

/** The clauses of shared/DOC.md, by the section in which they stand. */
final class Document {
    private static final Path FILE = Path.of("..", "shared", "DOC.md");
    // A clause ends with a full stop, a semicolon, or a colon ahead of the next one's capital or quote.
    private static final String CLAUSE_END = "(?<=[.;:])\\s+(?=[A-Z\"])|(?<=;)\\s+";

    private final Map<String, List<String>> clauses = new LinkedHashMap<>();
    private final Map<String, String> texts = new LinkedHashMap<>();

    Document() throws IOException {
        String[] sections = Files.readString(FILE).split("(?m)^## ");
        for (int i = 1; i < sections.length; i++) {
            int headEnd = sections[i].indexOf('\n');
            String name = sections[i].substring(0, headEnd).replaceAll("(Promise \\d+):.*", "$1").trim();
            read(name, sections[i].substring(headEnd));
        }
    }

    private void read(String section, String body) {
        texts.put(section, plain(body));
        List<String> found = new ArrayList<>();
        for (String paragraph : body.split("\n\\s*\n|\n- |\n(?=Throws )")) {
            for (String clause : bare(plain(paragraph)).split(CLAUSE_END)) {
                // A single word is the name of a term, as "Maze." ahead of what is told of the maze.
                if (clause.indexOf(' ') > 0) {
                    found.add(clause);
                }
            }
        }
        clauses.put(section, found);
    }

    /** A paragraph without a list's dash or a method's head before it. */
    private static String bare(String paragraph) {
        return paragraph.replaceFirst("^- |^(?:\\w+ )?\\w+\\([^)]*\\)(?: throws [\\w, ]+)?: ", "");
    }

    /** A text without the marks of its form, and with one blank between two words. */
    static String plain(String text) {
        return text.replace("`", "").replaceAll("\\s+", " ").trim();
    }

    boolean says(String section, String quote) {
        return texts.getOrDefault(section, "").contains(plain(quote));
    }

    Iterable<String> sections() {
        return clauses.keySet();
    }

    List<String> clausesOf(String section) {
        return clauses.getOrDefault(section, List.of());
    }
}
