import java.io.IOException;
import java.lang.reflect.InvocationTargetException;
import java.lang.reflect.Method;
import java.lang.reflect.Modifier;
import java.nio.file.Files;
import java.nio.file.Path;
import java.util.HashMap;
import java.util.List;
import java.util.Map;
import java.util.TreeSet;
import java.util.regex.Matcher;
import java.util.regex.Pattern;

/** What README.md shows: its calls with the answers behind them, and all that it names. */
public final class ReadmeTest {
    private static final String BEGIN = "Ghostracer game = new Ghostracer();";
    private static final Pattern LINE = Pattern.compile(
            "(?:int (\\w+) = )?game\\.(\\w+)\\((.*?)\\); *// (throws \\w+|[^ :]+)(?:: .+)?");
    private static final Pattern TRACK = Pattern.compile("int (\\w+) = game\\.track\\(\\);");

    private final Ghostracer game = new Ghostracer();
    private final Map<String, Object> variables = new HashMap<>();

    public static void main(String[] args) throws IOException {
        List<String> lines = Files.readAllLines(Path.of("README.md"));
        int begin = lines.indexOf(BEGIN);
        Check.same("the example begins", true, begin > 0);
        ReadmeTest test = new ReadmeTest();
        for (int i = begin + 1; i < lines.size() && !lines.get(i).equals("```"); i++) {
            test.line(lines.get(i));
        }
        String text = String.join("\n", lines);
        namesEachCall(text);
        namesEachTest(text);
        Check.end("ReadmeTest");
    }

    private void line(String line) {
        if (line.isEmpty()) {
            return;
        }
        Matcher track = TRACK.matcher(line);
        if (track.matches()) {
            variables.put(track.group(1), game.track());
            return;
        }
        Matcher call = LINE.matcher(line);
        Check.same("a call and its answer: " + line, true, call.matches());
        if (call.matches()) {
            Object answer = ask(call.group(2), call.group(3));
            Check.same(line, call.group(4).replace("throws ", "throws."), answer);
            if (call.group(1) != null) {
                variables.put(call.group(1), answer);
            }
        }
    }

    private Object ask(String name, String arguments) {
        String[] words = arguments.isEmpty() ? new String[0] : arguments.split(", ");
        Object[] values = new Object[words.length];
        for (int i = 0; i < words.length; i++) {
            values[i] = value(words[i]);
        }
        for (Method method : Ghostracer.class.getMethods()) {
            if (method.getName().equals(name)) {
                return invoke(method, values);
            }
        }
        return "no such call";
    }

    private Object value(String word) {
        if (variables.containsKey(word)) {
            return variables.get(word);
        }
        if (word.startsWith("'")) {
            return word.charAt(1);
        }
        return word.matches("true|false") ? (Object) Boolean.valueOf(word) : Integer.valueOf(word);
    }

    private Object invoke(Method method, Object[] values) {
        try {
            return method.invoke(game, values);
        } catch (InvocationTargetException e) {
            return "throws." + e.getCause().getClass().getSimpleName();
        } catch (IllegalAccessException e) {
            return "not public";
        }
    }

    private static void namesEachCall(String text) {
        TreeSet<String> calls = new TreeSet<>();
        for (Method method : Ghostracer.class.getDeclaredMethods()) {
            if (Modifier.isPublic(method.getModifiers())) {
                calls.add(method.getName());
            }
        }
        for (String call : calls) {
            Check.same("names the call " + call, true, text.contains("`" + call + "`"));
        }
    }

    private static void namesEachTest(String text) throws IOException {
        try (var files = Files.list(Path.of("src/test/java"))) {
            files.map(file -> file.getFileName().toString())
                    .filter(file -> file.endsWith("Test.java"))
                    .map(file -> file.replace(".java", ""))
                    .forEach(test -> Check.same("names " + test, true,
                            text.contains("`" + test + "`")));
        }
    }
}
