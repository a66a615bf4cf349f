import java.util.Arrays;

/** Counts wrong answers and tells them with the sentence at hand; a main ends with exit code 1 if there was one. */
final class Checks {
    private int made = 0;
    private int wrong = 0;
    private String sentence = "";

    /** What follows tests this sentence (or clause) of this part of the document: "Terms", "Promise 4". */
    void sentence(String part, String quote) {
        sentence = part + ", '" + quote + "': ";
        made++;
        if (!Document.says(part, quote)) {
            fail("does not stand in the document");
        }
    }

    void due(String call, long got, long want) {
        made++;
        if (got != want) {
            fail(call + " answered " + got + ", due is " + want);
        }
    }

    void due(String what, int[] got, int... want) {
        made++;
        if (!Arrays.equals(got, want)) {
            fail(what + " answered " + Arrays.toString(got) + ", due is " + Arrays.toString(want));
        }
    }

    void holds(String what, boolean is) {
        made++;
        if (!is) {
            fail(what + " does not hold");
        }
    }

    boolean allRight() {
        return wrong == 0;
    }

    void end() {
        System.out.println(made + " checks, " + wrong + " wrong");
        if (wrong != 0 || made == 0) {
            System.exit(1);
        }
    }

    private void fail(String what) {
        wrong++;
        System.out.println(sentence + what);
    }
}
