import java.io.IOException;
import java.nio.file.Files;
import java.nio.file.Path;
import java.util.List;
import java.util.Set;
import java.util.regex.Matcher;
import java.util.regex.Pattern;

/** Those rules of LANGUAGE.md that can be read off the text of the source. */
public final class LanguageTest {
    private static final Path SOURCE = Path.of("src", "main", "java", "MazeBonds.java");
    private static final int LONGEST_METHOD = 64;
    private static final int MOST_PARAMETERS = 7;
    private static final int MOST_CLASSES = 14;
    private static final Set<String> IMPORTS = Set.of("java.util.Arrays", "java.util.NoSuchElementException",
        "java.util.ArrayList", "java.util.List", "java.util.Iterator");
    private static final Set<String> THROWN = Set.of("IllegalStateException", "IllegalArgumentException",
        "IndexOutOfBoundsException", "ArithmeticException", "UnsupportedOperationException",
        "NoSuchElementException", "RuntimeException");
    private static final String[] RULED_OUT = {"->", "::", "\\bfinally\\b", "\\bsynchronized\\b", "\\bassert\\b",
        "(?m)^package\\b", "\\bSystem\\.(?!arraycopy)", "\\bMath\\.\\w*Exact", "\\bString\\.", "\\bhashCode\\b",
        "\\bgetMessage\\b", "\\bstatic\\s*\\{", "\"\\s*\\+", "\\+\\s*\"", "\\bThread\\b",
        "\\bRandom\\b"};

    public static void main(String[] args) throws IOException {
        String source = Files.readString(SOURCE);
        String code = source.replaceAll("/\\*(?s:.*?)\\*/", "").replaceAll("//.*", "");
        Expect.due("other signs than 1 to 127", Pattern.compile("[^\\x01-\\x7f]").matcher(code).find(), false);
        // What stands in texts, and the arrows of a switch, are not what the patterns look for.
        String bare = code.replaceAll("'(?:\\\\.|[^'\\\\])'", "' '").replaceAll("\"(?:\\\\.|[^\"\\\\])*\"", "\"\"")
            .replaceAll("\\b(?:case\\b[^:;{}>]*|default\\s*)->", "");
        for (String pattern : RULED_OUT) {
            Expect.due("found " + pattern, Pattern.compile(pattern).matcher(bare).find(), false);
        }
        allAmong("import", find(code, "import ([\\w.]+);"), IMPORTS);
        allAmong("throw", find(code, "\\bthrow (?:new )?(\\w+)"), THROWN);
        allAmong("catch", find(code, "\\bcatch \\((?:final )?(\\w+)"), THROWN);
        int classes = find(code, "\\b(class|enum|interface|record) \\w+").size();
        Expect.due("at most some twelve classes inside, not " + classes, classes <= MOST_CLASSES, true);
        methodsAreShort(code.split("\n"));
        fieldsAreFinalIfStatic(code.split("\n"));
        Expect.end();
    }

    private static List<String> find(String code, String pattern) {
        Matcher matcher = Pattern.compile(pattern).matcher(code);
        return matcher.results().map(result -> result.group(1)).toList();
    }

    private static void allAmong(String what, List<String> found, Set<String> allowed) {
        for (String name : found) {
            Expect.due(what + " " + name, allowed.contains(name), true);
        }
    }

    private static void methodsAreShort(String[] lines) {
        Pattern head = Pattern.compile("( +)(?:[\\w\\[\\]]+ )+?(\\w+)\\((.*)\\).*\\{");
        for (int i = 0; i < lines.length; i++) {
            Matcher matcher = head.matcher(lines[i]);
            if (matcher.matches() && (matcher.group(1).length() == 4 || matcher.group(1).length() == 8)
                && !lines[i].contains(" else ") && !lines[i].contains("for (") && !lines[i].contains("new ")) {
                int end = i;
                while (end < lines.length && !lines[end].equals(matcher.group(1) + "}")) {
                    end++;
                }
                Expect.due(matcher.group(2) + " is short", end - i <= LONGEST_METHOD, true);
                Expect.due(matcher.group(2) + " takes few parameters",
                    matcher.group(3).split(",").length <= MOST_PARAMETERS, true);
            }
        }
    }

    private static void fieldsAreFinalIfStatic(String[] lines) {
        for (String line : lines) {
            if (line.matches(" +(private )?static .*;") || line.matches(" +(private )?static [^(]*= .*")) {
                Expect.due(line.trim() + " is final", line.contains(" final "), true);
            }
        }
    }
}
