import java.io.IOException;
import java.lang.reflect.InvocationTargetException;
import java.lang.reflect.Method;
import java.nio.file.Files;
import java.nio.file.Path;
import java.util.ArrayList;
import java.util.HashMap;
import java.util.List;
import java.util.Map;
import java.util.regex.Matcher;
import java.util.regex.Pattern;

/** README.md's example answers what stands behind its calls, and README.md names every test. */
public final class ReadmeTest {
    private static final String MADE = "ScoreSheaf contest = new ScoreSheaf();";
    private static final Pattern CALL =
        Pattern.compile("(?:int (\\w+) = )?contest\\.(\\w+)\\((.*?)\\); +// (throws \\w+|[^: ]+)(: .*)?");
    private static final int FEWEST_CALLS = 20;

    private final Due due = new Due();
    private final ScoreSheaf contest = new ScoreSheaf();
    private final Map<String, Object> told = new HashMap<>();
    private int calls;

    private ReadmeTest() {
    }

    /** The document's path, the source's, then README.md's and that of the folder with the tests. */
    public static void main(String[] args) throws IOException {
        new ReadmeTest().run(Files.readAllLines(Path.of(args[2])), Path.of(args[3]));
    }

    private void run(List<String> readme, Path tests) throws IOException {
        for (String line : exampleOf(readme)) {
            line(line);
        }
        due.is("at least " + FEWEST_CALLS + " calls of " + calls, calls >= FEWEST_CALLS, true);
        String whole = String.join("\n", readme);
        try (var files = Files.newDirectoryStream(tests, "*.java")) {
            for (Path file : files) {
                String name = file.getFileName().toString().replace(".java", "");
                due.is("it names " + name, whole.contains("`" + name + "`"), true);
            }
        }
        due.end("ReadmeTest");
    }

    private static List<String> exampleOf(List<String> readme) {
        List<String> example = new ArrayList<>();
        boolean inside = false;
        for (String line : readme) {
            if (line.startsWith("```")) {
                inside = line.equals("```java");
            } else if (inside && !line.isBlank() && !line.equals(MADE)) {
                example.add(line);
            }
        }
        return example;
    }

    private void line(String line) {
        Matcher call = CALL.matcher(line);
        boolean isCall = call.matches();
        due.is("a call with its answer: " + line, isCall, true);
        if (isCall) {
            calls++;
            Object answer = answerOf(call.group(2), call.group(3));
            due.is(line, String.valueOf(answer), call.group(4));
            if (call.group(1) != null) {
                told.put(call.group(1), answer);
            }
        }
    }

    private Object answerOf(String name, String arguments) {
        Object[] values = arguments.isEmpty() ? new Object[0] : valuesOf(arguments.split(", "));
        for (Method method : ScoreSheaf.class.getMethods()) {
            if (method.getName().equals(name) && method.getParameterCount() == values.length) {
                return answerOf(method, values);
            }
        }
        return "no such method";
    }

    private Object answerOf(Method method, Object[] values) {
        try {
            return method.invoke(contest, values);
        } catch (InvocationTargetException e) {
            return "throws " + e.getCause().getClass().getSimpleName();
        } catch (IllegalAccessException | IllegalArgumentException e) {
            return "arguments of another kind";
        }
    }

    private Object[] valuesOf(String[] words) {
        Object[] values = new Object[words.length];
        for (int at = 0; at < words.length; at++) {
            values[at] = valueOf(words[at]);
        }
        return values;
    }

    private Object valueOf(String word) {
        if (told.containsKey(word)) {
            return told.get(word);
        }
        return word.startsWith("'") ? (Object) word.charAt(1) : (Object) Integer.valueOf(word);
    }
}
