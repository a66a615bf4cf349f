import java.io.IOException;
import java.io.UncheckedIOException;
import java.nio.file.Files;
import java.nio.file.Path;
import java.util.ArrayList;
import java.util.LinkedHashMap;
import java.util.List;
import java.util.Map;

/** ../shared/DOC.md by its parts "Terms", "Promise 1", ..; tests run from the project's folder. */
final class Document {
    private static final Path PATH = Path.of("../shared/DOC.md");
    private static final Map<String, String> PARTS = isThere() ? read() : Map.of();
    private static final Map<String, List<String>> QUOTED = new LinkedHashMap<>();

    private Document() {
    }

    static boolean isThere() {
        return Files.isReadable(PATH);
    }

    /** The text of each part, all blanks and line ends made one blank. */
    static Map<String, String> parts() {
        return PARTS;
    }

    /** True too where there is no document to look into. */
    static boolean says(String part, String quote) {
        QUOTED.computeIfAbsent(part, p -> new ArrayList<>()).add(quote);
        return !isThere() || PARTS.getOrDefault(part, "").contains(quote);
    }

    /** What no quote so far had of a part, but for signs, signatures and the lines on the interface's headings. */
    static String unquoted(String part) {
        String text = PARTS.getOrDefault(part, "");
        boolean[] had = new boolean[text.length()];
        for (String quote : QUOTED.getOrDefault(part, List.of())) {
            for (int at = text.indexOf(quote); at >= 0; at = text.indexOf(quote, at + 1)) {
                java.util.Arrays.fill(had, at, at + quote.length(), true);
            }
        }
        StringBuilder left = new StringBuilder();
        for (int k = 0; k < had.length; k++) {
            left.append(had[k] ? '|' : text.charAt(k));
        }
        return left.toString().replaceAll("Ahead of the calls [^-]*---- \\w+\\.", "").replaceAll("`[^`]*`", "")
            .replaceAll("[^A-Za-z0-9]+", " ").trim();
    }

    private static Map<String, String> read() {
        Map<String, String> parts = new LinkedHashMap<>();
        String part = "";
        try {
            for (String line : Files.readAllLines(PATH)) {
                if (line.startsWith("## ")) {
                    part = line.substring(3).replaceAll(":.*", "");
                } else if (!line.startsWith("```")) {
                    String text = parts.getOrDefault(part, "") + " " + line.trim();
                    parts.put(part, text.replaceAll("\\s+", " "));
                }
            }
        } catch (IOException e) {
            throw new UncheckedIOException(e);
        }
        return parts;
    }
}
