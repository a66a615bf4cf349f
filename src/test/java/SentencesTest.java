import java.util.Map;

/** Each sentence of the document's Terms and promises is quoted by a test; needs ../shared/DOC.md. */
public final class SentencesTest {
    private static final Checks checks = new Checks();

    public static void main(String[] args) {
        if (!Document.isThere()) {
            System.out.println("no DOC.md: the sentences are not compared");
            return;
        }
        DrawsTest.main(args);
        RowsTest.main(args);
        OrdersTest.main(args);
        BatchesTest.main(args);
        ActsTest.main(args);
        RefusalsTest.main(args);
        for (Map.Entry<String, String> part : Document.parts().entrySet()) {
            String name = part.getKey();
            if (name.equals("Terms") || name.startsWith("Promise ")) {
                String left = Document.unquoted(name);
                checks.holds(name + ": no test quotes '" + left + "', which", left.isEmpty());
            }
        }
        checks.due("promises in the document", Document.parts().keySet().stream()
            .filter(name -> name.startsWith("Promise ")).count(), 19);
        checks.end();
    }
}
