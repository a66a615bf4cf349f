import java.io.IOException;
import java.lang.reflect.Field;
import java.lang.reflect.Method;
import java.lang.reflect.Modifier;
import java.nio.file.Files;
import java.nio.file.Path;
import java.util.Arrays;
import java.util.regex.Pattern;

/** Rules of LANGUAGE.md that a look at the text or the parts of the class can tell; run from the project's folder. */
public final class LanguageTest {
    private static final String[] NOT_THERE = {
        "\\bpackage\\b", "\\bimport\\b", "\\btry\\b", "\\bcatch\\b", "\\bfinally\\b", "\\bsynchronized\\b",
        "\\bassert\\b", "->", "::", "\\bdouble\\b", "\\bfloat\\b", "\\bjava\\.", "Exact\\(",
        "\\bSystem\\.(?!arraycopy)", "\\bThread\\b", "\\bstatic \\{", "\\bprotected\\b",
        "\\b(equals|hashCode|toString)\\("};
    private static final String[] FACE = {"row", "picture", "word", "paint", "mark", "of", "seed", "set", "count",
        "batch", "share", "once", "resume", "next", "at", "act", "out", "like"};
    private static final Checks checks = new Checks();

    public static void main(String[] args) throws IOException {
        String text = Files.readString(Path.of("src/main/java/BatchOrder.java"));
        String code = text.replaceAll("(?s)/\\*.*?\\*/", "").replaceAll("//[^\n]*", "").replaceAll("\"[^\"]*\"", "");
        for (String pattern : NOT_THERE) {
            checks.holds("no " + pattern, !Pattern.compile(pattern).matcher(code).find());
        }
        for (String name : FACE) {
            String declared = "\\b(int|long|boolean|void|Content)(\\[\\])? " + name + "\\(";
            checks.due("methods named " + name, Pattern.compile(declared).matcher(code).results().count(), 1);
        }
        checks.due("throws", Pattern.compile("\\bthrow new ArithmeticException\\(").matcher(code).results().count(), 1);
        checks.due("all throws", Pattern.compile("\\bthrow\\b").matcher(code).results().count(), 1);
        checks.holds("characters 0 to 255 alone", text.chars().allMatch(c -> c <= 255));
        methodsAreShort(text);
        classesAreFewAndSmall();
        checks.end();
    }

    /** Rule 11, by the indent of the lines that begin and end a method. */
    private static void methodsAreShort(String text) {
        String[] lines = text.split("\n");
        int begin = -1;
        for (int k = 0; k < lines.length; k++) {
            String line = lines[k];
            if (line.matches(" {4}( {4})?[^/* ].*\\) (throws \\w+ )?\\{")) {
                begin = begin < 0 ? k : begin;
            } else if (begin >= 0 && line.equals(lines[begin].replaceAll("\\S.*", "") + "}")) {
                checks.holds("sixty lines at most from line " + (begin + 1), k - begin < 60);
                begin = -1;
            }
        }
    }

    /** Rules 1, 5 and 11. */
    private static void classesAreFewAndSmall() {
        Class<?>[] inside = BatchOrder.class.getDeclaredClasses();
        checks.holds("twelve classes at most", inside.length + 1 <= 12);
        membersAreFew(BatchOrder.class);
        for (Class<?> c : inside) {
            checks.holds(c + " is static", Modifier.isStatic(c.getModifiers()));
            checks.holds(c + " can't be seen from outside",
                !Modifier.isPublic(c.getModifiers()) && !Modifier.isProtected(c.getModifiers()));
            checks.due("classes inside " + c, c.getDeclaredClasses().length, 0);
            membersAreFew(c);
        }
    }

    private static void membersAreFew(Class<?> c) {
        Field[] fields = c.getDeclaredFields();
        checks.holds(c + " has twenty fields at most beside constants",
            Arrays.stream(fields).filter(f -> !Modifier.isStatic(f.getModifiers())).count() <= 20);
        for (Field f : fields) {
            int is = f.getModifiers();
            checks.holds(f + " is final if static", !Modifier.isStatic(is) || Modifier.isFinal(is));
        }
        for (Method m : c.getDeclaredMethods()) {
            checks.holds(m + " takes seven at most", m.getParameterCount() <= 7);
        }
    }
}
