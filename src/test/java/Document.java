import java.io.IOException;
import java.io.UncheckedIOException;
import java.nio.file.Files;
import java.nio.file.Path;
import java.util.ArrayList;
import java.util.Comparator;
import java.util.List;
import java.util.Map;
import java.util.TreeMap;
import java.util.TreeSet;

/**
 * The sentences of ../shared/DOC.md, and which of them checks were named for, so that none is
 * misquoted and none is left out; run at the root.
 */
final class Document {
    private static final Path PATH = Path.of("../shared/DOC.md");
    private static final String[] TITLES = {"Tracks and cars.", "Driving.", "Laps.", "Store.",
        "Seasons.", "Exceptions."};
    private static final Map<String, String> SECTIONS = read();
    private static final Map<String, TreeSet<String>> NAMED = new TreeMap<>();

    private Document() {
    }

    private static String text() {
        try {
            return Files.readString(PATH);
        } catch (IOException e) {
            throw new UncheckedIOException(e);
        }
    }

    /** The calls of the first example with their answers, in one line. */
    static String example() {
        String[] parts = text().split("```(text)?\\s");
        for (int i = 1; i < parts.length; i++) {
            if (parts[i - 1].trim().endsWith("First example:")) {
                return parts[i].replaceAll("\\s+", " ").trim();
            }
        }
        return "no first example";
    }

    /** The text of each section by its heading; a promise's heading is cut behind its number. */
    private static Map<String, String> read() {
        Map<String, String> sections = new TreeMap<>();
        for (String section : text().split("(?m)^## ")) {
            int end = section.indexOf('\n');
            String heading = section.substring(0, Math.max(end, 0)).split(":")[0];
            sections.put(heading, plain(section.substring(Math.max(end, 0))));
        }
        return sections;
    }

    /** Without the examples, the bullets' dashes and the breaks of lines. */
    private static String plain(String section) {
        return section.split("<p>Examples:")[0].replaceAll("(?m)^- ", "").replaceAll("\\s+", " ")
                .trim();
    }

    static void name(String section, String words) {
        boolean isSaid = SECTIONS.getOrDefault(section, "").contains(words);
        Check.same("the document says, " + section + ": " + words, true, isSaid);
        NAMED.computeIfAbsent(section, s -> new TreeSet<>()).add(words);
    }

    /** Each sentence of the terms and of the promises was named. */
    static void allNamed() {
        Check.same("promises", 39L,
                SECTIONS.keySet().stream().filter(s -> s.startsWith("Promise ")).count());
        for (String section : SECTIONS.keySet()) {
            if (section.equals("Terms") || section.startsWith("Promise ")) {
                Check.same("what no check is for, " + section, "", unnamed(section));
            }
        }
    }

    private static String unnamed(String section) {
        String left = SECTIONS.get(section).replaceFirst("^`[^`]*`: ", "");
        List<String> named = new ArrayList<>(NAMED.getOrDefault(section, new TreeSet<>()));
        // The longest go first, as a short one may be said within a long one.
        named.sort(Comparator.comparing((String words) -> -words.length()));
        for (String words : named) {
            left = left.replace(words, "|");
        }
        for (String title : TITLES) {
            left = section.equals("Terms") ? left.replace(title, "|") : left;
        }
        return left.replaceAll("[| ]+", " ").trim();
    }
}
