/** Terms, the ROWS themselves, and promises 1 to 9: a new object, row, picture, word, paint, mark, of, seed, set. */
public final class RowsTest {
    private static final int BAD = BatchOrder.BAD;
    private static final int FULL = BatchOrder.FULL;
    private static final int LOWEST = Integer.MIN_VALUE;
    private static final int HIGHEST = Integer.MAX_VALUE;
    private static final Checks checks = new Checks();

    public static void main(String[] args) {
        terms();
        newObject();
        row();
        picture();
        word();
        paint();
        mark();
        of();
        seed();
        set();
        checks.end();
    }

    private static void terms() {
        atMostSixtyRows();
        rowsAreNumberedFromZero();
        wordsAreInts();
        bytesAreZeroTo255();
        linesOfWideEach();
        labelsAreZeroToSeven();
        weightsAreZeroToThousand();
        lengthIsByKind();
        settingsAtFirst();
    }

    private static void atMostSixtyRows() {
        checks.sentence("Terms", "2 ROWS, 60 at most");
        BatchOrder x = Sample.rows(59);
        checks.due("the sixtieth", x.row(0, 0, 0), 59);
        checks.due("one more", x.row(0, 0, 0), FULL);
        checks.due("ROW 59", x.of(59, 0), 0);
        checks.due("ROW 60", x.of(60, 0), BAD);
    }

    private static void rowsAreNumberedFromZero() {
        checks.sentence("Terms", "numbered from 0");
        BatchOrder x = new BatchOrder();
        for (int r = 0; r < 60; r++) {
            checks.due("ROW " + r, r % 2 == 0 ? x.row(2, 0, 0) : x.picture(1, 1, 0, 0), r);
        }
    }

    private static void wordsAreInts() {
        checks.sentence("Terms", "a KIND (0 WORDS: ints");
        BatchOrder x = Sample.ofWords(LOWEST, -1, 0, 1, HIGHEST);
        checks.due("as told", Sample.words(x, 0), LOWEST, -1, 0, 1, HIGHEST);
        checks.due("KIND", x.of(0, 0), 0);
    }

    private static void bytesAreZeroTo255() {
        checks.sentence("Terms", "1 PICTURE: bytes 0 .. 255");
        BatchOrder x = new BatchOrder();
        x.picture(1, 8, 0, 0);
        x.paint(0, 0, 0x00017F8081FEFF00L);
        checks.due("as told", Sample.bytes(x, 0), 0, 1, 127, 128, 129, 254, 255, 0);
        checks.due("KIND", x.of(0, 0), 1);
    }

    private static void linesOfWideEach() {
        checks.sentence("Terms", "HIGH lines of WIDE each; 2 NOTHING)");
        BatchOrder x = Sample.ofPicture(3, 2);
        x.row(2, 0, 0);
        x.act(1, 0, 4, 1);
        checks.due("CROP of a single byte", x.out(0), 5);
        x.act(1, 0, 7, 2);
        checks.due("CROP of the first lines", Sample.out(x), 0, 1, 2, 3);
        checks.due("KIND", x.of(1, 0), 2);
    }

    private static void labelsAreZeroToSeven() {
        checks.sentence("Terms", "a LABEL (0 .. 7)");
        for (int label : new int[] {LOWEST, -1, 0, 7, 8, HIGHEST}) {
            boolean is = label == 0 || label == 7;
            BatchOrder x = new BatchOrder();
            checks.due("row of LABEL " + label, x.row(0, label, 0), is ? 0 : BAD);
            checks.due("picture of LABEL " + label, x.picture(1, 1, label, 0), is ? 1 : BAD);
            checks.due("LABEL of the row", x.of(0, 1), is ? label : BAD);
            checks.due("LABEL of the picture", x.of(1, 1), is ? label : BAD);
            BatchOrder y = Sample.ofLabels(3);
            checks.due("mark of LABEL " + label, y.mark(0, label, 0), is ? 1 : BAD);
            checks.due("LABEL then", y.of(0, 1), is ? label : 3);
        }
    }

    private static void weightsAreZeroToThousand() {
        checks.sentence("Terms", "a WEIGHT (0 .. 1000).");
        for (int weight : new int[] {LOWEST, -1, 0, 1000, 1001, HIGHEST}) {
            boolean is = weight == 0 || weight == 1000;
            BatchOrder x = new BatchOrder();
            checks.due("row of WEIGHT " + weight, x.row(2, 0, weight), is ? 0 : BAD);
            checks.due("picture of WEIGHT " + weight, x.picture(1, 1, 0, weight), is ? 1 : BAD);
            checks.due("WEIGHT of the row", x.of(0, 2), is ? weight : BAD);
            checks.due("WEIGHT of the picture", x.of(1, 2), is ? weight : BAD);
            BatchOrder y = Sample.ofWeights(3);
            checks.due("mark of WEIGHT " + weight, y.mark(0, 0, weight), is ? 1 : BAD);
            checks.due("WEIGHT then", y.of(0, 2), is ? weight : 3);
        }
    }

    private static void lengthIsByKind() {
        checks.sentence("Terms", "LENGTH: how many WORDS; HIGH times WIDE; 0.");
        BatchOrder x = Sample.ofLengths(0, 1, 40);
        x.picture(1, 1, 0, 0);
        x.picture(40, 40, 0, 0);
        x.picture(2, 40, 0, 0);
        x.row(2, 0, 0);
        int[] want = {0, 1, 40, 1, 1600, 80, 0};
        for (int r = 0; r < want.length; r++) {
            checks.due("of(" + r + ", 3)", x.of(r, 3), want[r]);
        }
    }

    private static void settingsAtFirst() {
        checks.sentence("Terms", "SIZE 4, GROUP 8, BUFFER 5, SEED 0 at first.");
        BatchOrder x = new BatchOrder();
        checks.due("SIZE", x.set(0, 9), 4);
        checks.due("GROUP", x.set(1, 9), 8);
        checks.due("BUFFER", x.set(2, 9), 5);
        checks.due("SEED", x.seed(9), 0);
        BatchOrder other = new BatchOrder();
        checks.due("another object's SIZE", other.set(0, 4), 4);
        checks.due("another object's GROUP", other.set(1, 8), 8);
        checks.due("another object's BUFFER", other.set(2, 5), 5);
        checks.due("another object's SEED", other.seed(0), 0);
    }

    private static void newObject() {
        checks.sentence("Promise 1", "No ROWS; SEED 0.");
        BatchOrder x = new BatchOrder();
        checks.due("of(0, 0)", x.of(0, 0), BAD);
        checks.due("next()", x.next(), BatchOrder.NONE);
        checks.due("count()", x.count(), 0);
        checks.due("like(0)", x.like(0), BAD);
        checks.due("seed", x.seed(1), 0);
        x.row(0, 0, 0);
        x.act(3, 0, 0, 0);
        x.resume(1, 2, 1);
        BatchOrder other = new BatchOrder();
        checks.due("another object's rows", other.of(0, 0), BAD);
        checks.due("another object's OUT", other.out(-1), Sample.NULL);
        checks.due("another object's place", Sample.atHand(other), 0, 0, 0);
        checks.due("another object's first row", other.row(2, 0, 0), 0);
        checks.due("another object's seed", other.seed(0), 0);
        checks.due("the first object's row", x.of(0, 0), 0);
        checks.due("the first object's OUT", x.out(-1), 0);
        checks.due("the first object's place", Sample.atHand(x), 1, 2, 1);
        checks.due("the first object's seed", x.seed(0), 1);
    }

    private static void row() {
        rowIsWordsOrNothing();
        rowRefuses();
        rowIsFull();
    }

    private static void rowIsWordsOrNothing() {
        checks.sentence("Promise 2", "WORDS without any yet (kind 0), NOTHING (2): the ROW's number.");
        BatchOrder x = new BatchOrder();
        checks.due("WORDS", x.row(0, 3, 4), 0);
        checks.due("NOTHING", x.row(2, 5, 6), 1);
        checks.due("WORDS again", x.row(0, 0, 0), 2);
        int[][] want = {{0, 3, 4, 0, 0, 0}, {2, 5, 6, 0, 0, 0}, {0, 0, 0, 0, 0, 0}};
        for (int r = 0; r < 3; r++) {
            for (int what = 0; what < 6; what++) {
                checks.due("of(" + r + ", " + what + ")", x.of(r, what), want[r][what]);
            }
        }
        checks.due("the first word", x.word(0, 7), 1);
    }

    private static void rowRefuses() {
        checks.sentence("Promise 2", "BAD: kind, LABEL, WEIGHT");
        int[][] wrong = {{1, 0, 0}, {-1, 0, 0}, {3, 0, 0}, {LOWEST, 0, 0}, {HIGHEST, 0, 0}, {0, -1, 0}, {0, 8, 0},
            {2, LOWEST, 0}, {2, HIGHEST, 0}, {0, 0, -1}, {0, 0, 1001}, {2, 0, LOWEST}, {2, 0, HIGHEST}};
        BatchOrder x = new BatchOrder();
        for (int[] w : wrong) {
            checks.due("row" + written(w), x.row(w[0], w[1], w[2]), BAD);
        }
        checks.due("the first row that is right", x.row(0, 0, 0), 0);
    }

    private static void rowIsFull() {
        checks.sentence("Promise 2", "; FULL.");
        BatchOrder x = Sample.rows(60);
        checks.due("WORDS", x.row(0, 0, 0), FULL);
        checks.due("NOTHING", x.row(2, 0, 0), FULL);
        checks.due("BAD is ahead of it: kind", x.row(1, 0, 0), BAD);
        checks.due("BAD is ahead of it: LABEL", x.row(0, 8, 0), BAD);
        checks.due("BAD is ahead of it: WEIGHT", x.row(0, 0, -1), BAD);
    }

    private static void picture() {
        pictureOfOneToForty();
        pictureIsAllZero();
        pictureRefuses();
        pictureIsFull();
    }

    private static void pictureOfOneToForty() {
        checks.sentence("Promise 3", "A PICTURE of so many lines (1 .. 40) of so many bytes (1 .. 40)");
        int[][] sides = {{1, 1}, {1, 40}, {40, 1}, {40, 40}};
        for (int[] s : sides) {
            BatchOrder x = new BatchOrder();
            checks.due("picture" + written(s), x.picture(s[0], s[1], 2, 3), 0);
            checks.due("HIGH", x.of(0, 4), s[0]);
            checks.due("WIDE", x.of(0, 5), s[1]);
            checks.due("its last place", x.paint(0, s[0] * s[1] - 1, 0L), 1);
            checks.due("behind it", x.paint(0, s[0] * s[1], 0L), BAD);
        }
        int[][] wrong = {{0, 1}, {1, 0}, {0, 0}, {41, 1}, {1, 41}, {41, 41}, {-1, 1}, {1, -1}, {-1, -1}, {LOWEST, 1},
            {1, LOWEST}, {HIGHEST, 1}, {1, HIGHEST}, {65536, 65536}, {LOWEST, 2}};
        for (int[] s : wrong) {
            checks.due("picture" + written(s), new BatchOrder().picture(s[0], s[1], 0, 0), BAD);
        }
    }

    private static void pictureIsAllZero() {
        checks.sentence("Promise 3", "all 0: the ROW's number.");
        BatchOrder x = Sample.ofPicture(2, 4);
        checks.due("a second one", x.picture(2, 4, 1, 2), 1);
        checks.due("its bytes", Sample.bytes(x, 1), 0, 0, 0, 0, 0, 0, 0, 0);
        checks.due("the first one's bytes", Sample.bytes(x, 0), 0, 1, 2, 3, 4, 5, 6, 7);
        checks.due("LABEL", x.of(1, 1), 1);
        checks.due("WEIGHT", x.of(1, 2), 2);
    }

    private static void pictureRefuses() {
        checks.sentence("Promise 3", "BAD;");
        int[][] wrong = {{0, 1, 0, 0}, {1, 41, 0, 0}, {1, 1, -1, 0}, {1, 1, 8, 0}, {1, 1, LOWEST, 0}, {1, 1, 0, -1},
            {1, 1, 0, 1001}, {1, 1, 0, HIGHEST}};
        BatchOrder x = new BatchOrder();
        for (int[] w : wrong) {
            checks.due("picture" + written(w), x.picture(w[0], w[1], w[2], w[3]), BAD);
        }
        checks.due("the first one that is right", x.picture(1, 1, 0, 0), 0);
    }

    private static void pictureIsFull() {
        checks.sentence("Promise 3", "BAD; FULL.");
        BatchOrder x = Sample.rows(60);
        checks.due("a picture more", x.picture(1, 1, 0, 0), FULL);
        checks.due("BAD is ahead of it: HIGH", x.picture(0, 1, 0, 0), BAD);
        checks.due("BAD is ahead of it: WIDE", x.picture(1, 41, 0, 0), BAD);
        checks.due("BAD is ahead of it: LABEL", x.picture(1, 1, 8, 0), BAD);
        checks.due("BAD is ahead of it: WEIGHT", x.picture(1, 1, 0, 1001), BAD);
    }

    private static void word() {
        wordAnswersHowMany();
        wordRefuses();
        wordIsFullAtForty();
    }

    private static void wordAnswersHowMany() {
        checks.sentence("Promise 4", "A WORD more of a ROW of WORDS: how many it has.");
        BatchOrder x = Sample.ofLengths(0, 0);
        checks.due("first", x.word(1, 5), 1);
        checks.due("second", x.word(1, 5), 2);
        checks.due("the other row's first", x.word(0, -6), 1);
        checks.due("third", x.word(1, LOWEST), 3);
        checks.due("the words", Sample.words(x, 1), 5, 5, LOWEST);
        checks.due("the other row's words", Sample.words(x, 0), -6);
    }

    private static void wordRefuses() {
        checks.sentence("Promise 4", "BAD: also a ROW of another KIND");
        BatchOrder x = new BatchOrder();
        checks.due("without rows", x.word(0, 1), BAD);
        x.picture(1, 1, 0, 0);
        x.row(2, 0, 0);
        x.row(0, 0, 0);
        checks.due("of a PICTURE", x.word(0, 1), BAD);
        checks.due("of NOTHING", x.word(1, 1), BAD);
        for (int row : new int[] {-1, 3, 60, LOWEST, HIGHEST}) {
            checks.due("ROW " + row, x.word(row, 1), BAD);
        }
        checks.due("of WORDS", x.word(2, 1), 1);
    }

    private static void wordIsFullAtForty() {
        checks.sentence("Promise 4", "FULL: 40.");
        BatchOrder x = Sample.ofLengths(39, 0);
        checks.due("the fortieth", x.word(0, 123), 40);
        checks.due("one more", x.word(0, 456), FULL);
        checks.due("and again", x.word(0, 789), FULL);
        checks.due("LENGTH", x.of(0, 3), 40);
        int[] words = Sample.words(x, 0);
        checks.due("the last but one", words[38], 38);
        checks.due("the last", words[39], 123);
        checks.due("the other row's first", x.word(1, 0), 1);
    }

    private static void paint() {
        paintLaysEightBytes();
        paintGoesLineByLine();
        paintLeavesOutWhatIsBeyond();
        paintLaysTheHighestFirst();
        paintRefuses();
        paintRefusesAPlaceThatIsNotThere();
    }

    private static void paintLaysEightBytes() {
        checks.sentence("Promise 5", "Eight bytes of a PICTURE from place k on");
        BatchOrder x = Sample.ofPicture(1, 12);
        checks.due("paint", x.paint(0, 2, 0x6465666768696A6BL), 1);
        checks.due("eight, no more", Sample.bytes(x, 0), 0, 1, 100, 101, 102, 103, 104, 105, 106, 107, 10, 11);
        checks.due("zeros too", x.paint(0, 0, 0L), 1);
        checks.due("eight zeros", Sample.bytes(x, 0), 0, 0, 0, 0, 0, 0, 0, 0, 106, 107, 10, 11);
    }

    private static void paintGoesLineByLine() {
        checks.sentence("Promise 5", "(of all, line by line;");
        BatchOrder x = new BatchOrder();
        x.picture(3, 3, 0, 0);
        x.paint(0, 1, 0x0102030405060708L);
        x.act(1, 0, 0, 3);
        checks.due("over the ends of lines", Sample.out(x), 0, 1, 2, 3, 4, 5, 6, 7, 8);
        x.act(0, 0, 0, 0);
        checks.due("a quarter to the right", Sample.out(x), 6, 3, 0, 7, 4, 1, 8, 5, 2);
    }

    private static void paintLeavesOutWhatIsBeyond() {
        checks.sentence("Promise 5", "those beyond its end are left out)");
        BatchOrder x = new BatchOrder();
        x.picture(2, 2, 0, 0);
        x.picture(1, 1, 0, 0);
        x.picture(3, 3, 0, 0);
        x.picture(2, 2, 0, 0);
        checks.due("paint from place 2 of 4", x.paint(0, 2, 0x0102030405060708L), 1);
        checks.due("two of eight", Sample.bytes(x, 0), 0, 0, 1, 2);
        checks.due("paint the last place", x.paint(0, 3, -1L), 1);
        checks.due("one of eight", Sample.bytes(x, 0), 0, 0, 1, 255);
        checks.due("paint the single place", x.paint(1, 0, 0x0908070605040302L), 1);
        checks.due("the single byte", Sample.bytes(x, 1), 9);
        checks.due("paint from place 2 of 9", x.paint(2, 2, 0x0102030405060708L), 1);
        checks.due("seven of eight", Sample.bytes(x, 2), 0, 0, 1, 2, 3, 4, 5, 6, 7);
        checks.due("the row behind", Sample.bytes(x, 3), 0, 0, 0, 0);
        checks.due("LENGTH", x.of(0, 3), 4);
    }

    private static void paintLaysTheHighestFirst() {
        checks.sentence("Promise 5", "the highest of v first: 1.");
        BatchOrder x = new BatchOrder();
        x.picture(2, 4, 0, 0);
        checks.due("paint", x.paint(0, 0, 0x80FF007F01020304L), 1);
        checks.due("the bytes", Sample.bytes(x, 0), 128, 255, 0, 127, 1, 2, 3, 4);
        checks.due("paint -1", x.paint(0, 0, -1L), 1);
        checks.due("all 255", Sample.bytes(x, 0), 255, 255, 255, 255, 255, 255, 255, 255);
        checks.due("paint the lowest", x.paint(0, 0, Long.MIN_VALUE), 1);
        checks.due("128 first", Sample.bytes(x, 0), 128, 0, 0, 0, 0, 0, 0, 0);
    }

    private static void paintRefuses() {
        checks.sentence("Promise 5", "BAD: also a ROW of another KIND");
        BatchOrder x = new BatchOrder();
        checks.due("without rows", x.paint(0, 0, 1L), BAD);
        x.row(0, 0, 0);
        x.word(0, 5);
        x.row(2, 0, 0);
        x.picture(1, 1, 0, 0);
        checks.due("of WORDS", x.paint(0, 0, 1L), BAD);
        checks.due("of NOTHING", x.paint(1, 0, 1L), BAD);
        for (int row : new int[] {-1, 3, 60, LOWEST, HIGHEST}) {
            checks.due("ROW " + row, x.paint(row, 0, 1L), BAD);
        }
        checks.due("the words as they were", Sample.words(x, 0), 5);
    }

    private static void paintRefusesAPlaceThatIsNotThere() {
        checks.sentence("Promise 5", "a place that is not there.");
        BatchOrder x = new BatchOrder();
        x.picture(2, 3, 0, 0);
        for (int k : new int[] {-1, -8, 6, 7, 1600, LOWEST, HIGHEST}) {
            checks.due("place " + k, x.paint(0, k, -1L), BAD);
        }
        checks.due("the bytes as they were", Sample.bytes(x, 0), 0, 0, 0, 0, 0, 0);
        checks.due("place 0", x.paint(0, 0, -1L), 1);
        checks.due("place 5", x.paint(0, 5, -1L), 1);
    }

    private static void mark() {
        markMakesOthers();
        markRefuses();
    }

    private static void markMakesOthers() {
        checks.sentence("Promise 6", "A ROW's LABEL, WEIGHT become others: 1.");
        BatchOrder x = new BatchOrder();
        x.row(0, 1, 2);
        x.picture(1, 1, 3, 4);
        x.row(2, 5, 6);
        checks.due("the highest", x.mark(1, 7, 1000), 1);
        checks.due("the lowest", x.mark(2, 0, 0), 1);
        int[][] want = {{1, 2}, {7, 1000}, {0, 0}};
        for (int r = 0; r < 3; r++) {
            checks.due("LABEL of " + r, x.of(r, 1), want[r][0]);
            checks.due("WEIGHT of " + r, x.of(r, 2), want[r][1]);
        }
        checks.due("the same again", x.mark(1, 7, 1000), 1);
    }

    private static void markRefuses() {
        checks.sentence("Promise 6", "BAD.");
        checks.due("without rows", new BatchOrder().mark(0, 0, 0), BAD);
        BatchOrder x = new BatchOrder();
        x.row(2, 1, 2);
        int[][] wrong = {{0, -1, 5}, {0, 8, 5}, {0, LOWEST, 5}, {0, HIGHEST, 5}, {0, 5, -1}, {0, 5, 1001},
            {0, 5, LOWEST}, {0, 5, HIGHEST}, {1, 5, 5}, {-1, 5, 5}, {60, 5, 5}, {LOWEST, 5, 5}, {HIGHEST, 5, 5}};
        for (int[] w : wrong) {
            checks.due("mark" + written(w), x.mark(w[0], w[1], w[2]), BAD);
        }
        checks.due("LABEL as it was", x.of(0, 1), 1);
        checks.due("WEIGHT as it was", x.of(0, 2), 2);
    }

    private static void of() {
        ofTellsAll();
        sidesOfOthersAreZero();
        ofRefuses();
    }

    private static void ofTellsAll() {
        checks.sentence("Promise 7", "Of a ROW: 0 KIND, 1 LABEL, 2 WEIGHT, 3 LENGTH, 4 HIGH, 5 WIDE");
        BatchOrder x = new BatchOrder();
        x.picture(3, 7, 5, 12);
        int[] want = {1, 5, 12, 21, 3, 7};
        for (int what = 0; what < 6; what++) {
            checks.due("of(0, " + what + ")", x.of(0, what), want[what]);
        }
    }

    private static void sidesOfOthersAreZero() {
        checks.sentence("Promise 7", "(0 of others).");
        BatchOrder x = Sample.ofLengths(3, 0);
        x.row(2, 0, 0);
        for (int r = 0; r < 3; r++) {
            checks.due("HIGH of " + r, x.of(r, 4), 0);
            checks.due("WIDE of " + r, x.of(r, 5), 0);
        }
    }

    private static void ofRefuses() {
        checks.sentence("Promise 7", "BAD.");
        checks.due("without rows", new BatchOrder().of(0, 0), BAD);
        BatchOrder x = Sample.ofPicture(2, 2);
        for (int what : new int[] {-1, 6, LOWEST, HIGHEST}) {
            checks.due("what " + what, x.of(0, what), BAD);
        }
        for (int row : new int[] {-1, 1, 60, LOWEST, HIGHEST}) {
            checks.due("ROW " + row, x.of(row, 0), BAD);
        }
    }

    private static void seed() {
        checks.sentence("Promise 8", "SEED: what it was.");
        BatchOrder x = Sample.rows(6);
        checks.due("at first", x.seed(Long.MIN_VALUE), 0);
        checks.due("ORDER by the lowest", Sample.order(x, 0, 3), 1, 0, 5, 3, 4, 2);
        checks.due("then", x.seed(Long.MAX_VALUE), Long.MIN_VALUE);
        checks.due("ORDER by the highest", Sample.order(x, 0, 3), 5, 3, 0, 2, 1, 4);
        checks.due("then", x.seed(-1L), Long.MAX_VALUE);
        checks.due("ORDER by -1", Sample.order(x, 0, 3), 0, 3, 1, 4, 2, 5);
        checks.due("then", x.seed(1L << 40), -1L);
        checks.due("then", x.seed(1L), 1L << 40);
        checks.due("ORDER by 1", Sample.order(x, 0, 3), 5, 2, 1, 0, 4, 3);
        checks.due("the same again", x.seed(1L), 1L);
    }

    private static void set() {
        setWithin(0, "what = 0 SIZE (0 .. 20)", 4, 0, 20);
        setWithin(1, "1 GROUP (1 .. 60)", 8, 1, 60);
        setWithin(2, "2 BUFFER (1 .. 60)", 5, 1, 60);
        setWithin(3, "3 DROPS (1, 0; 0 at first)", 0, 0, 1);
        setChangesOneAlone();
        setRefuses();
    }

    private static void setWithin(int what, String quote, int first, int least, int most) {
        checks.sentence("Promise 9", quote);
        BatchOrder x = new BatchOrder();
        checks.due("below", x.set(what, least - 1), BAD);
        checks.due("above", x.set(what, most + 1), BAD);
        checks.due("lowest", x.set(what, LOWEST), BAD);
        checks.due("highest", x.set(what, HIGHEST), BAD);
        checks.due("the least, at first", x.set(what, least), first);
        checks.due("the most", x.set(what, most), least);
        checks.due("below", x.set(what, least - 1), BAD);
        checks.due("above", x.set(what, most + 1), BAD);
        checks.due("the least", x.set(what, least), most);
        checks.due("the least again", x.set(what, least), least);
    }

    private static void setChangesOneAlone() {
        checks.sentence("Promise 9", "becomes n: what it was.");
        int[] first = {4, 8, 5, 0};
        for (int what = 0; what < 4; what++) {
            BatchOrder x = new BatchOrder();
            checks.due("set(" + what + ", 1)", x.set(what, 1), first[what]);
            for (int other = 0; other < 4; other++) {
                checks.due("then set(" + other + ", 1)", x.set(other, 1), other == what ? 1 : first[other]);
            }
        }
    }

    private static void setRefuses() {
        checks.sentence("Promise 9", "BAD.");
        BatchOrder x = new BatchOrder();
        for (int what : new int[] {-1, 4, LOWEST, HIGHEST}) {
            for (int n : new int[] {0, 1, 4, -1}) {
                checks.due("set(" + what + ", " + n + ")", x.set(what, n), BAD);
            }
        }
        checks.due("SIZE as it was", x.set(0, 1), 4);
        checks.due("GROUP as it was", x.set(1, 1), 8);
        checks.due("BUFFER as it was", x.set(2, 1), 5);
        checks.due("DROPS as it was", x.set(3, 1), 0);
    }

    private static String written(int[] arguments) {
        return java.util.Arrays.toString(arguments);
    }
}
