import java.io.IOException;
import java.lang.reflect.Field;
import java.lang.reflect.Modifier;
import java.nio.file.Files;
import java.nio.file.Path;
import java.util.List;
import java.util.regex.Matcher;
import java.util.regex.Pattern;

/** Those rules of ../shared/LANGUAGE.md that can be seen in the source's text; run at the root. */
public final class LanguageTest {
    private static final Path SOURCE = Path.of("src/main/java/Ghostracer.java");
    private static final String[] FORBIDDEN = {
        "->", "::", "\\bpackage\\b", "\\b(try|catch|finally|synchronized|assert)\\b",
        "\\b(equals|hashCode|toString)\\b", "\\bSystem\\.", "\\bThread\\b", "\\w+Exact\\b",
        "\\bstatic \\{", "\\bInteger\\.valueOf\\b", "\\b(HashMap|Map|Set|Random|Object)\\b",
        "\\b(Integer|Long)\\.[A-Z]", "\"\\s*\\+", "\\+\\s*\"", "\\bvar\\b", "\\bprotected\\b",
    };

    public static void main(String[] args) throws IOException {
        List<String> lines = Files.readAllLines(SOURCE);
        String code = withoutComments(String.join("\n", lines));
        for (String forbidden : FORBIDDEN) {
            Matcher found = Pattern.compile(forbidden).matcher(code);
            Check.same("no " + forbidden, "", found.find() ? found.group() : "");
        }
        imports(code);
        throwsAreWritten(code);
        textsAreAscii(lines);
        methodsAreShort(lines);
        classesAreSmall();
        Check.end("LanguageTest");
    }

    private static String withoutComments(String text) {
        return text.replaceAll("(?s)/\\*.*?\\*/", "").replaceAll("//[^\n]*", "");
    }

    private static void imports(String code) {
        Matcher found = Pattern.compile("(?m)^import (.*);$").matcher(code);
        while (found.find()) {
            Check.same("an import", "java.util.NoSuchElementException", found.group(1));
        }
    }

    private static void throwsAreWritten(String code) {
        String written = "throw new (IllegalState|IllegalArgument|IndexOutOfBounds"
                + "|UnsupportedOperation|NoSuchElement)Exception\\(\"[^\"]*\"\\);.*";
        Matcher found = Pattern.compile("(?m)\\bthrow\\b.*$").matcher(code);
        while (found.find()) {
            Check.same("as rule 6 says: " + found.group(), true, found.group().matches(written));
        }
    }

    private static void textsAreAscii(List<String> lines) {
        for (String line : lines) {
            Check.same("signs of " + line, true, line.matches("[ -~]*"));
        }
    }

    /** A member ends by a brace that stands as far in as its first line. */
    private static void methodsAreShort(List<String> lines) {
        for (int end = 0; end < lines.size(); end++) {
            String line = lines.get(end);
            if (line.equals("    }") || line.equals("        }")) {
                String first = line.replace("}", "") + "[a-z].*";
                int begin = end;
                while (begin > 0 && !lines.get(begin).matches(first)) {
                    begin--;
                }
                boolean isClass = lines.get(begin).contains(" class ");
                Check.same("short, up to line " + (end + 1), true, isClass || end - begin < 60);
            }
        }
    }

    private static void classesAreSmall() {
        Class<?>[] inside = Ghostracer.class.getDeclaredClasses();
        Check.same("at most twelve classes", true, inside.length < 12);
        fieldsAreFew(Ghostracer.class);
        for (Class<?> one : inside) {
            fieldsAreFew(one);
        }
    }

    private static void fieldsAreFew(Class<?> type) {
        int fields = 0;
        for (Field field : type.getDeclaredFields()) {
            fields += Modifier.isStatic(field.getModifiers()) ? 0 : 1;
        }
        Check.same("at most twenty fields in " + type, true, fields <= 20);
    }
}
