import java.lang.reflect.Constructor;
import java.lang.reflect.Field;
import java.lang.reflect.Member;
import java.lang.reflect.Method;
import java.lang.reflect.Modifier;
import java.util.ArrayList;
import java.util.List;
import java.util.Set;
import java.util.TreeSet;

/** The public face is the document's, and nothing else of the class can be seen (LANGUAGE.md, rule 1). */
public final class FaceTest {
    private static final Set<String> METHODS = Set.of(
        "int row(int, int, int)", "int picture(int, int, int, int)", "int word(int, int)",
        "int paint(int, int, long)", "int mark(int, int, int)", "int of(int, int)", "long seed(long)",
        "int set(int, int)", "int count() throws ArithmeticException", "int batch(int, int, int, int)",
        "int share(int, int, int, int, int, int)", "int once(int, int)", "int resume(int, int, int)", "int next()",
        "int at(int)", "int act(int, int, int, int)", "int out(int)", "int like(int)");
    private static final Checks checks = new Checks();

    public static void main(String[] args) {
        constantsAreTheDocuments();
        methodsAreTheDocuments();
        constructorIsPublicAndAlone();
        nothingElseIsSeen();
        checks.end();
    }

    private static void constantsAreTheDocuments() {
        checks.due("BAD", BatchOrder.BAD, -1);
        checks.due("FULL", BatchOrder.FULL, -2);
        checks.due("NONE", BatchOrder.NONE, -3);
        checks.holds("three public fields", BatchOrder.class.getFields().length == 3);
    }

    private static void methodsAreTheDocuments() {
        Set<String> found = new TreeSet<>();
        for (Method m : BatchOrder.class.getDeclaredMethods()) {
            if (Modifier.isPublic(m.getModifiers())) {
                found.add(written(m));
            }
        }
        checks.holds("the public methods are the document's: " + found, found.equals(METHODS));
    }

    private static String written(Method m) {
        List<String> types = new ArrayList<>();
        for (Class<?> type : m.getParameterTypes()) {
            types.add(type.getSimpleName());
        }
        String text = m.getReturnType().getSimpleName() + " " + m.getName() + "(" + String.join(", ", types) + ")";
        for (Class<?> thrown : m.getExceptionTypes()) {
            text += " throws " + thrown.getSimpleName();
        }
        return text;
    }

    private static void constructorIsPublicAndAlone() {
        Constructor<?>[] all = BatchOrder.class.getDeclaredConstructors();
        checks.holds("one constructor", all.length == 1);
        checks.holds("it is public and takes nothing",
            Modifier.isPublic(all[0].getModifiers()) && all[0].getParameterCount() == 0);
        checks.holds("the class is public and final", Modifier.isPublic(BatchOrder.class.getModifiers())
            && Modifier.isFinal(BatchOrder.class.getModifiers()));
    }

    private static void nothingElseIsSeen() {
        for (Field f : BatchOrder.class.getDeclaredFields()) {
            privateOrPublic(f);
            checks.holds(f + " is final if static",
                !Modifier.isStatic(f.getModifiers()) || Modifier.isFinal(f.getModifiers()));
        }
        for (Method m : BatchOrder.class.getDeclaredMethods()) {
            privateOrPublic(m);
        }
    }

    private static void privateOrPublic(Member member) {
        int is = member.getModifiers();
        checks.holds(member + " is private or public", Modifier.isPrivate(is) || Modifier.isPublic(is));
    }
}
