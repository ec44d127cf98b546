import java.io.IOException;
import java.lang.reflect.InvocationTargetException;
import java.lang.reflect.Method;
import java.nio.file.DirectoryStream;
import java.nio.file.Files;
import java.nio.file.Path;
import java.util.List;
import java.util.regex.Matcher;
import java.util.regex.Pattern;

/** The examples of README.md, call by call, and the list of its tests: lest it tell what no longer is so. */
public final class ReadmeTest {
    private static final Path README = Path.of("README.md");
    private static final Path TESTS = Path.of("src", "test", "java");
    private static final String NEW_MAZE = "MazeBonds maze = new MazeBonds();";
    // The answer ends at a comma; what follows is for the reader.
    private static final Pattern CALL = Pattern.compile("maze\\.(\\w+)\\((.*)\\); *// ([^,]+).*");

    private ReadmeTest() {
    }

    public static void main(String[] args) throws IOException, IllegalAccessException {
        List<String> lines = Files.readAllLines(README);
        examplesHold(lines);
        eachTestIsListed(lines);
        Expect.end();
    }

    private static void examplesHold(List<String> lines) throws IllegalAccessException {
        MazeBonds maze = null;
        boolean isExample = false;
        int examples = 0;
        for (String line : lines) {
            if (line.startsWith("```")) {
                isExample = line.equals("```java");
                examples += isExample ? 1 : 0;
            } else if (isExample && line.equals(NEW_MAZE)) {
                maze = new MazeBonds();
            } else if (isExample) {
                callHolds(maze, line);
            }
        }
        Expect.due("README.md has examples", examples > 0, true);
    }

    private static void callHolds(MazeBonds maze, String line) throws IllegalAccessException {
        Matcher call = CALL.matcher(line);
        Expect.due("a call with its answer: " + line, maze != null && call.matches(), true);
        if (maze != null && call.matches()) {
            Expect.due("README.md: " + line, answer(maze, call.group(1), call.group(2)), call.group(3));
        }
    }

    private static String answer(MazeBonds maze, String name, String told) throws IllegalAccessException {
        String[] arguments = told.isEmpty() ? new String[0] : told.split(", ");
        for (Method method : MazeBonds.class.getMethods()) {
            if (method.getName().equals(name) && method.getParameterCount() == arguments.length) {
                return answer(maze, method, arguments);
            }
        }
        return "no such method";
    }

    private static String answer(MazeBonds maze, Method method, String[] arguments) throws IllegalAccessException {
        Object[] values = new Object[arguments.length];
        for (int i = 0; i < values.length; i++) {
            // Not by ?:, which would make an int of the character.
            if (method.getParameterTypes()[i] == char.class) {
                values[i] = arguments[i].charAt(1);
            } else {
                values[i] = Integer.valueOf(arguments[i]);
            }
        }
        try {
            return method.invoke(maze, values).toString();
        } catch (InvocationTargetException failed) {
            return "throws " + failed.getCause().getClass().getSimpleName();
        }
    }

    private static void eachTestIsListed(List<String> lines) throws IOException {
        try (DirectoryStream<Path> tests = Files.newDirectoryStream(TESTS, "*Test.java")) {
            for (Path test : tests) {
                String row = "| `" + test.getFileName().toString().replace(".java", "") + "` |";
                Expect.due("README.md lists " + row, lines.stream().anyMatch(line -> line.startsWith(row)), true);
            }
        }
    }
}
