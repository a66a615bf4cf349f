import java.io.IOException;
import java.nio.file.Files;
import java.nio.file.Path;
import java.util.regex.Pattern;

/** Rules of LANGUAGE.md that a look at the text of the class can tell; run from the project's folder. */
public final class LanguageTest {
    private static final String[] NOT_THERE = {
        "\\bpackage\\b", "\\bimport\\b", "\\btry\\b", "\\bcatch\\b", "\\bfinally\\b", "\\bsynchronized\\b",
        "\\bassert\\b", "->", "::", "\\bdouble\\b", "\\bfloat\\b", "\\bjava\\.", "Exact\\(", "\\bSystem\\.(?!arraycopy)",
        "\\bThread\\b", "\\bstatic \\{", "\\bprotected\\b", "\\b(equals|hashCode|toString)\\("};
    private static final String[] FACE = {"row", "picture", "word", "paint", "mark", "of", "seed", "set", "count",
        "batch", "share", "once", "resume", "next", "at", "act", "out", "like"};
    private static final Checks checks = new Checks();

    public static void main(String[] args) throws IOException {
        String text = Files.readString(Path.of("src/main/java/BatchOrder.java"));
        String code = text.replaceAll("(?s)/\\*.*?\\*/", "").replaceAll("//[^\n]*", "").replaceAll("\"[^\"]*\"", "");
        for (String pattern : NOT_THERE) {
            checks.holds("no " + pattern, !Pattern.compile(pattern).matcher(code).find());
        }
        for (String name : FACE) {
            String declared = "\\b(int|long|boolean|void|Content)(\\[\\])? " + name + "\\(";
            checks.due("methods named " + name, Pattern.compile(declared).matcher(code).results().count(), 1);
        }
        checks.due("throws", Pattern.compile("\\bthrow new ArithmeticException\\(").matcher(code).results().count(), 1);
        checks.due("all throws", Pattern.compile("\\bthrow\\b").matcher(code).results().count(), 1);
        checks.holds("characters 0 to 255 alone", text.chars().allMatch(c -> c <= 255));
        checks.end();
    }
}
