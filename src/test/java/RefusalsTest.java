import java.util.ArrayList;
import java.util.List;

/** Terms, the sentence on REFUSALS and FAILURES: their order, and that they change nothing at all. */
public final class RefusalsTest {
    private static final int BAD = BatchOrder.BAD;
    private static final int FULL = BatchOrder.FULL;
    private static final Checks checks = new Checks();

    private interface Call {
        long on(BatchOrder x);
    }

    public static void main(String[] args) {
        theFirstTold();
        badAheadOfFailures();
        badChangesNothing();
        badOfBatchesChangesNothing();
        fullChangesNothing();
        fullTableChangesNothing();
        failuresChangeNothing();
        failuresOfOrdersChangeNothing();
        checks.end();
    }

    /** All that is not as in a new object; ROW 0 is WORDS, 1 a PICTURE, 2 NOTHING, 3 no WORDS, 4 the most WORDS. */
    private static BatchOrder busy() {
        BatchOrder x = Sample.ofWords(10, 20, 30);
        x.picture(2, 3, 1, 4);
        x.paint(1, 0, 0x0908070605040000L);
        x.row(2, 6, 5);
        x.row(0, 7, 0);
        x.row(0, 2, 1000);
        for (int k = 0; k < 40; k++) {
            x.word(4, -k);
        }
        x.seed(11);
        x.set(0, 3);
        x.set(1, 2);
        x.set(2, 4);
        x.set(3, 1);
        x.resume(2, 9, 2);
        x.act(2, 1, 5, 256);
        return x;
    }

    private static List<Long> state(BatchOrder x) {
        List<Long> all = new ArrayList<>();
        for (int k = 0; k < 3; k++) {
            all.add((long) x.at(k));
        }
        int end = Math.max(0, x.out(-1));
        for (int i = -3; i < end; i++) {
            all.add((long) x.out(i));
        }
        int many = 0;
        while (many < 60 && x.of(many, 0) != BAD) {
            many++;
        }
        for (int r = 0; r < many && many < 60; r++) {
            addRow(x, r, all);
        }
        all.add((long) many);
        all.add(x.seed(0));
        int[] some = {1, 1, 1, 0};
        for (int what = 0; what < 4; what++) {
            all.add((long) x.set(what, some[what]));
        }
        return all;
    }

    private static void addRow(BatchOrder x, int r, List<Long> all) {
        for (int what = 0; what < 6; what++) {
            all.add((long) x.of(r, what));
        }
        int kind = x.of(r, 0);
        int[] items = kind == 0 ? Sample.words(x, r) : kind == 1 ? Sample.bytes(x, r) : new int[0];
        for (int item : items) {
            all.add((long) item);
        }
    }

    private static void dueUnchanged(String call, long due, Call made) {
        dueUnchanged(call, due, made, busy(), busy());
    }

    private static void dueUnchanged(String call, long due, Call made, BatchOrder x, BatchOrder twin) {
        checks.due(call, made.on(x), due);
        List<Long> got = state(x);
        List<Long> want = state(twin);
        checks.holds(call + " changes nothing: " + got + " was " + want, got.equals(want));
    }

    private static void theFirstTold() {
        checks.sentence("Terms", "REFUSALS BAD, FULL (ahead of FAILURES, the first told)");
        BatchOrder full = Sample.rows(60);
        checks.due("row: kind, table", full.row(1, 0, 0), BAD);
        checks.due("row: LABEL, table", full.row(0, 8, 0), BAD);
        checks.due("row: WEIGHT, table", full.row(2, 0, 1001), BAD);
        checks.due("picture: HIGH, table", full.picture(41, 1, 0, 0), BAD);
        checks.due("picture: WEIGHT, table", full.picture(1, 1, 0, -1), BAD);
        checks.due("word: KIND, table", full.word(0, 0), BAD);
        checks.due("row: table alone", full.row(0, 0, 0), FULL);
        checks.due("picture: table alone", full.picture(1, 1, 0, 0), FULL);
    }

    private static void badAheadOfFailures() {
        checks.sentence("Terms", "(ahead of FAILURES, the first told)");
        BatchOrder x = busy();
        checks.due("act: ROUND, NOTHING", x.act(0, 2, -1, 0), BAD);
        checks.due("act: n, NOTHING", x.act(3, 2, 0, 101), BAD);
        checks.due("act: n, other KIND", x.act(2, 0, 0, -1), BAD);
        checks.due("act: n, above HIGH", x.act(1, 1, 0, 41), BAD);
        checks.due("act: n, LENGTH 0", x.act(4, 3, 0, 51), BAD);
        x.set(0, 0);
        checks.due("batch: k, SIZE", x.batch(0, 0, -1, 0), BAD);
        checks.due("batch: WAY, SIZE", x.batch(5, 0, 0, 0), BAD);
        checks.due("share: m, SIZE", x.share(0, 0, 0, 0, 0, 0), BAD);
        checks.due("share: w, SIZE", x.share(0, 0, 0, 1, 1, 0), BAD);
        BatchOrder zeros = Sample.ofWeights(0, 0);
        checks.due("batch: i, WEIGHTS", zeros.batch(2, 0, 0, -1), BAD);
        checks.due("share: ROUND, WEIGHTS", zeros.share(2, 1001, 0, 1, 0, 0), BAD);
        checks.due("once: ROUND, WEIGHTS", zeros.once(2, -1), BAD);
    }

    private static void badChangesNothing() {
        checks.sentence("Terms", "REFUSALS BAD, FULL");
        dueUnchanged("row(1, 0, 0)", BAD, x -> x.row(1, 0, 0));
        dueUnchanged("row(0, 8, 0)", BAD, x -> x.row(0, 8, 0));
        dueUnchanged("row(2, 0, -1)", BAD, x -> x.row(2, 0, -1));
        dueUnchanged("picture(0, 1, 0, 0)", BAD, x -> x.picture(0, 1, 0, 0));
        dueUnchanged("picture(1, 41, 0, 0)", BAD, x -> x.picture(1, 41, 0, 0));
        dueUnchanged("picture(1, 1, -1, 0)", BAD, x -> x.picture(1, 1, -1, 0));
        dueUnchanged("picture(1, 1, 0, 1001)", BAD, x -> x.picture(1, 1, 0, 1001));
        dueUnchanged("word(1, 7)", BAD, x -> x.word(1, 7));
        dueUnchanged("word(2, 7)", BAD, x -> x.word(2, 7));
        dueUnchanged("word(5, 7)", BAD, x -> x.word(5, 7));
        dueUnchanged("paint(0, 0, -1)", BAD, x -> x.paint(0, 0, -1L));
        dueUnchanged("paint(1, 6, -1)", BAD, x -> x.paint(1, 6, -1L));
        dueUnchanged("paint(1, -1, -1)", BAD, x -> x.paint(1, -1, -1L));
        dueUnchanged("mark(0, 8, 77)", BAD, x -> x.mark(0, 8, 77));
        dueUnchanged("mark(0, 5, 1001)", BAD, x -> x.mark(0, 5, 1001));
        dueUnchanged("mark(5, 5, 5)", BAD, x -> x.mark(5, 5, 5));
        dueUnchanged("of(0, 6)", BAD, x -> x.of(0, 6));
        dueUnchanged("set(0, 21)", BAD, x -> x.set(0, 21));
        dueUnchanged("set(1, 0)", BAD, x -> x.set(1, 0));
        dueUnchanged("set(2, 61)", BAD, x -> x.set(2, 61));
        dueUnchanged("set(3, 2)", BAD, x -> x.set(3, 2));
        dueUnchanged("set(4, 1)", BAD, x -> x.set(4, 1));
    }

    private static void badOfBatchesChangesNothing() {
        checks.sentence("Terms", "REFUSALS BAD");
        dueUnchanged("batch(5, 0, 0, 0)", BAD, x -> x.batch(5, 0, 0, 0));
        dueUnchanged("batch(0, 0, 0, -1)", BAD, x -> x.batch(0, 0, 0, -1));
        dueUnchanged("share(0, 0, 0, 9, 0, 0)", BAD, x -> x.share(0, 0, 0, 9, 0, 0));
        dueUnchanged("once(0, 1001)", BAD, x -> x.once(0, 1001));
        dueUnchanged("resume(5, 1, 1)", BAD, x -> x.resume(5, 1, 1));
        dueUnchanged("resume(1, 1001, 1)", BAD, x -> x.resume(1, 1001, 1));
        dueUnchanged("resume(1, 1, 6)", BAD, x -> x.resume(1, 1, 6));
        dueUnchanged("at(3)", BAD, x -> x.at(3));
        dueUnchanged("act(5, 1, 0, 0)", BAD, x -> x.act(5, 1, 0, 0));
        dueUnchanged("act(0, 5, 0, 0)", BAD, x -> x.act(0, 5, 0, 0));
        dueUnchanged("act(0, 1, 1001, 0)", BAD, x -> x.act(0, 1, 1001, 0));
        dueUnchanged("act(1, 1, 0, 41)", BAD, x -> x.act(1, 1, 0, 41));
        dueUnchanged("act(2, 1, 0, 257)", BAD, x -> x.act(2, 1, 0, 257));
        dueUnchanged("act(3, 0, 0, 101)", BAD, x -> x.act(3, 0, 0, 101));
        dueUnchanged("act(4, 0, 0, 51)", BAD, x -> x.act(4, 0, 0, 51));
        dueUnchanged("like(5)", BAD, x -> x.like(5));
    }

    private static void fullChangesNothing() {
        checks.sentence("Terms", "FULL (ahead of FAILURES, the first told)");
        dueUnchanged("word of the most WORDS", FULL, x -> x.word(4, 99));
    }

    private static BatchOrder fullTable() {
        BatchOrder x = Sample.rows(58);
        x.picture(1, 2, 3, 4);
        x.row(0, 5, 6);
        return x;
    }

    private static void fullTableChangesNothing() {
        checks.sentence("Terms", "FULL (ahead of FAILURES, the first told), FAILURES change nothing.");
        dueUnchanged("row(0, 7, 7)", FULL, x -> x.row(0, 7, 7), fullTable(), fullTable());
        dueUnchanged("row(2, 7, 7)", FULL, x -> x.row(2, 7, 7), fullTable(), fullTable());
        dueUnchanged("picture(3, 3, 7, 7)", FULL, x -> x.picture(3, 3, 7, 7), fullTable(), fullTable());
        BatchOrder x = fullTable();
        x.row(2, 7, 7);
        x.picture(3, 3, 7, 7);
        int[][] want = {{2, 0, 1, 0, 0, 0}, {1, 3, 4, 2, 1, 2}, {0, 5, 6, 0, 0, 0}};
        for (int r = 57; r < 60; r++) {
            for (int what = 0; what < 6; what++) {
                checks.due("of(" + r + ", " + what + ")", x.of(r, what), want[r - 57][what]);
            }
        }
    }

    private static void failuresChangeNothing() {
        checks.sentence("Terms", "FAILURES change nothing.");
        dueUnchanged("NULL: act(0, 2, 0, 0)", Sample.NULL, x -> x.act(0, 2, 0, 0));
        dueUnchanged("CAST: act(0, 0, 0, 0)", Sample.CAST, x -> x.act(0, 0, 0, 0));
        dueUnchanged("CAST: act(3, 1, 0, 0)", Sample.CAST, x -> x.act(3, 1, 0, 0));
        dueUnchanged("INDEX: act(1, 1, 0, 3)", Sample.INDEX, x -> x.act(1, 1, 0, 3));
        dueUnchanged("INDEX: act(4, 3, 0, 1)", Sample.INDEX, x -> x.act(4, 3, 0, 1));
        dueUnchanged("SIZE: act(1, 1, 0, -1)", Sample.SIZE, x -> x.act(1, 1, 0, -1));
        dueUnchanged("ZERO: act(2, 1, 0, 0)", Sample.ZERO, x -> x.act(2, 1, 0, 0));
        BatchOrder one = Sample.ofWords(3);
        BatchOrder twin = Sample.ofWords(3);
        dueUnchanged("ZERO: act(4, 0, 0, 1)", Sample.ZERO, x -> x.act(4, 0, 0, 1), one, twin);
        dueUnchanged("INDEX: out(6)", Sample.INDEX, x -> x.out(6));
        dueUnchanged("NULL: out(0)", Sample.NULL, x -> x.out(0), Sample.ofWords(3), Sample.ofWords(3));
    }

    private static BatchOrder withoutWeights() {
        BatchOrder x = busy();
        for (int r = 0; r < 5; r++) {
            x.mark(r, 3, 0);
        }
        x.resume(2, 1000, 5);
        return x;
    }

    private static void failuresOfOrdersChangeNothing() {
        checks.sentence("Terms", "FAILURES change nothing.");
        Call[] calls = {x -> x.next(), x -> x.once(2, 0), x -> x.batch(2, 0, 0, 0), x -> x.share(2, 0, 0, 1, 0, 0)};
        for (Call call : calls) {
            dueUnchanged("without WEIGHTS", Sample.ZERO, call, withoutWeights(), withoutWeights());
        }
        Call count = x -> {
            x.set(0, 0);
            return Sample.countThrows(x) ? 1 : 0;
        };
        BatchOrder twin = busy();
        twin.set(0, 0);
        dueUnchanged("count() that throws", 1, count, busy(), twin);
        twin = busy();
        twin.set(0, 0);
        BatchOrder sizeless = busy();
        sizeless.set(0, 0);
        dueUnchanged("batch by SIZE 0", Sample.ZERO, x -> x.batch(0, 0, 0, 0), sizeless, twin);
    }
}
