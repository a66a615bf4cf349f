/** Terms, 3 ACTS, and promises 17 to 19: act, out, like. The DRAWS due were worked out apart from the class. */
public final class ActsTest {
    private static final int BAD = BatchOrder.BAD;
    private static final int NULL = Sample.NULL;
    private static final int CAST = Sample.CAST;
    private static final int INDEX = Sample.INDEX;
    private static final int SIZE = Sample.SIZE;
    private static final int ZERO = Sample.ZERO;
    private static final int LOWEST = Integer.MIN_VALUE;
    private static final int HIGHEST = Integer.MAX_VALUE;
    private static final int[] WORDS = {10, 20, 30, 40, 50, 60, 70};
    private static final Checks checks = new Checks();

    public static void main(String[] args) {
        outIsNew();
        turn();
        crop();
        noise();
        leave();
        swap();
        failures();
        refusals();
        act();
        out();
        like();
        checks.end();
    }

    private static void dueOut(String what, BatchOrder x, int high, int wide, int... want) {
        checks.due(what + ", HIGH", x.out(-2), high);
        checks.due(what + ", WIDE", x.out(-3), wide);
        checks.due(what, Sample.out(x), want);
    }

    /** ROW 0 a PICTURE of 2 lines of 3, ROW 1 three WORDS, ROW 2 NOTHING, ROW 3 no WORDS, ROW 4 one WORD. */
    private static BatchOrder five() {
        BatchOrder x = Sample.ofPicture(2, 3);
        x.row(0, 0, 0);
        x.word(1, 7);
        x.word(1, 8);
        x.word(1, 9);
        x.row(2, 0, 0);
        x.row(0, 0, 0);
        x.row(0, 0, 0);
        x.word(4, 5);
        return x;
    }

    private static void outIsNew() {
        outIsNothingAtFirst();
        outIsApartFromTheRow();
        outIsMadeAnew();
        drawsHangOnTheAct();
    }

    private static void outIsNothingAtFirst() {
        checks.sentence("Terms", "3 ACTS on a ROW in a ROUND: OUT (NOTHING at first)");
        checks.due("out(-1) of a new object", new BatchOrder().out(-1), NULL);
        BatchOrder x = five();
        checks.due("out(0) ahead of all ACTS", x.out(0), NULL);
        checks.due("like NOTHING", x.like(2), 1);
        checks.due("not like no WORDS", x.like(3), 0);
    }

    private static void outIsApartFromTheRow() {
        checks.sentence("Terms", "becomes a new PICTURE or new WORDS;");
        BatchOrder x = five();
        x.act(2, 0, 8, 256);
        x.act(0, 0, 0, 0);
        x.act(2, 0, 0, 1);
        dueOut("the PICTURE as it was", x, 2, 3, 0, 1, 2, 3, 4, 5);
        x.paint(0, 0, -1L);
        dueOut("OUT as it was", x, 2, 3, 0, 1, 2, 3, 4, 5);
        x.act(4, 1, 0, 1);
        x.act(3, 1, 0, 100);
        x.act(3, 1, 0, 0);
        dueOut("the WORDS as they were", x, 0, 0, 7, 8, 9);
        x.word(1, 10);
        dueOut("OUT as it was", x, 0, 0, 7, 8, 9);
        checks.due("the ROW's LENGTH", x.of(1, 3), 4);
    }

    private static void outIsMadeAnew() {
        checks.sentence("Terms", "OUT (NOTHING at first) becomes a new PICTURE or new WORDS;");
        BatchOrder x = five();
        x.act(2, 0, 0, 1);
        x.act(3, 4, 0, 0);
        dueOut("WORDS behind a PICTURE", x, 0, 0, 5);
        checks.due("nothing of the PICTURE", x.out(1), INDEX);
        x.act(2, 0, 0, 1);
        dueOut("a PICTURE behind WORDS", x, 2, 3, 0, 1, 2, 3, 4, 5);
        x.act(1, 0, 0, 1);
        checks.due("a smaller one behind it", x.out(-1), 1);
        checks.due("nothing of the larger one", x.out(1), INDEX);
        x.act(1, 0, 0, 0);
        checks.due("an empty one behind it", x.out(0), INDEX);
    }

    private static void drawsHangOnTheAct() {
        checks.sentence("Terms", "DRAWS of the STREAM 5, the ROW, r, the ACT.");
        BatchOrder x = five();
        x.act(2, 0, 8, 256);
        dueOut("NOISE", x, 2, 3, 137, 108, 193, 241, 231, 228);
        x.batch(0, 5, 0, 0);
        x.next();
        x.act(0, 0, 3, 0);
        x.act(2, 0, 8, 256);
        dueOut("the same NOISE again", x, 2, 3, 137, 108, 193, 241, 231, 228);
        x.mark(0, 7, 9);
        x.act(2, 0, 8, 256);
        dueOut("of another LABEL and WEIGHT", x, 2, 3, 137, 108, 193, 241, 231, 228);
    }

    private static void turn() {
        turnGoesToTheRight();
        turnOfASingleLine();
        turnTakesAnyN();
    }

    private static void turnGoesToTheRight() {
        checks.sentence("Terms", "0 TURN: a PICTURE, by quarters to the right as a DRAW below 4 tells.");
        BatchOrder x = Sample.ofPicture(2, 3);
        x.act(0, 0, 2, 0);
        dueOut("no quarter", x, 2, 3, 0, 1, 2, 3, 4, 5);
        x.act(0, 0, 0, 0);
        dueOut("a quarter", x, 3, 2, 3, 0, 4, 1, 5, 2);
        x.act(0, 0, 1, 0);
        dueOut("two quarters", x, 2, 3, 5, 4, 3, 2, 1, 0);
        x.act(0, 0, 6, 0);
        dueOut("three quarters", x, 3, 2, 2, 5, 1, 4, 0, 3);
        x.act(0, 0, 1000, 0);
        dueOut("ROUND 1000", x, 2, 3, 5, 4, 3, 2, 1, 0);
    }

    private static void turnOfASingleLine() {
        checks.sentence("Terms", "0 TURN: a PICTURE");
        BatchOrder x = Sample.ofPicture(1, 4);
        x.act(0, 0, 0, 0);
        dueOut("a line, a quarter", x, 4, 1, 0, 1, 2, 3);
        x.act(0, 0, 6, 0);
        dueOut("a line, three quarters", x, 4, 1, 3, 2, 1, 0);
        BatchOrder single = new BatchOrder();
        single.picture(1, 1, 0, 0);
        single.paint(0, 0, -1L);
        single.act(0, 0, 0, 0);
        dueOut("a single byte", single, 1, 1, 255);
        BatchOrder large = new BatchOrder();
        large.picture(40, 40, 0, 0);
        large.paint(0, 1599, -1L);
        checks.due("the largest", large.act(0, 0, 0, 0), 1600);
        checks.due("its last byte, a quarter on", large.out(39 * 40), 255);
        checks.due("the last byte then", large.out(1599), 0);
    }

    private static void turnTakesAnyN() {
        checks.sentence("Terms", "by quarters to the right as a DRAW below 4 tells.");
        for (int n : new int[] {LOWEST, -1, 41, 257, HIGHEST}) {
            BatchOrder x = Sample.ofPicture(2, 3);
            checks.due("n " + n, x.act(0, 0, 0, n), 6);
            dueOut("n " + n, x, 3, 2, 3, 0, 4, 1, 5, 2);
        }
    }

    private static void crop() {
        cropTakesASquare();
        cropFirstLineAndPlace();
        cropOfNone();
        cropOfAll();
    }

    private static void cropTakesASquare() {
        checks.sentence("Terms", "1 CROP n: n lines of n:");
        BatchOrder x = Sample.ofPicture(3, 4);
        checks.due("n 1", x.act(1, 0, 4, 1), 1);
        dueOut("n 1", x, 1, 1, 11);
        checks.due("n 2", x.act(1, 0, 2, 2), 4);
        dueOut("n 2", x, 2, 2, 4, 5, 8, 9);
        checks.due("n as many as HIGH", x.act(1, 0, 1, 3), 9);
        dueOut("n as many as HIGH", x, 3, 3, 1, 2, 3, 5, 6, 7, 9, 10, 11);
    }

    private static void cropFirstLineAndPlace() {
        checks.sentence("Terms",
            "the first line a DRAW below HIGH - n + 1, then the first place a DRAW below WIDE - n + 1.");
        BatchOrder x = Sample.ofPicture(3, 4);
        int[][] want = {{1, 2, 5, 6}, {1, 2, 5, 6}, {4, 5, 8, 9}, {1, 2, 5, 6}, {6, 7, 10, 11}, {2, 3, 6, 7},
            {6, 7, 10, 11}, {0, 1, 4, 5}};
        for (int round = 0; round < want.length; round++) {
            x.act(1, 0, round, 2);
            dueOut("ROUND " + round, x, 2, 2, want[round]);
        }
        BatchOrder tall = Sample.ofPicture(3, 2);
        tall.act(1, 0, 4, 2);
        dueOut("n as many as WIDE", tall, 2, 2, 2, 3, 4, 5);
    }

    private static void cropOfNone() {
        checks.sentence("Terms", "n lines of n:");
        BatchOrder x = Sample.ofPicture(3, 4);
        checks.due("n 0", x.act(1, 0, 0, 0), 0);
        dueOut("n 0", x, 0, 0);
        checks.due("no byte", x.out(0), INDEX);
        checks.due("not like the ROW", x.like(0), 0);
    }

    private static void cropOfAll() {
        checks.sentence("Terms", "1 CROP n: n lines of n");
        BatchOrder x = new BatchOrder();
        x.picture(40, 40, 0, 0);
        x.paint(0, 0, 0x0102030405060708L);
        x.paint(0, 1599, -1L);
        checks.due("n 40", x.act(1, 0, 0, 40), 1600);
        checks.due("all of it", x.like(0), 1);
        checks.due("n 39", x.act(1, 0, 4, 39), 1521);
        checks.due("from line 1, place 1 on", x.out(1520), 255);
        checks.due("n 39 in ROUND 0", x.act(1, 0, 0, 39), 1521);
        checks.due("from line 0, place 0 on", x.out(7), 8);
        BatchOrder single = Sample.ofPicture(1, 1);
        checks.due("the smallest", single.act(1, 0, 0, 1), 1);
        checks.due("all of it", single.like(0), 1);
    }

    private static void noise() {
        checks.sentence("Terms", "2 NOISE n: each byte in turn becomes it xor a DRAW below n.");
        BatchOrder x = Sample.ofPicture(2, 3);
        checks.due("n 1", x.act(2, 0, 8, 1), 6);
        dueOut("n 1", x, 2, 3, 0, 1, 2, 3, 4, 5);
        x.act(2, 0, 8, 2);
        dueOut("n 2", x, 2, 3, 1, 0, 3, 3, 5, 4);
        x.act(2, 0, 8, 100);
        dueOut("n 100", x, 2, 3, 29, 24, 9, 69, 39, 28);
        x.act(2, 0, 8, 255);
        dueOut("n 255", x, 2, 3, 44, 224, 238, 103, 176, 0);
        checks.due("n 256", x.act(2, 0, 8, 256), 6);
        dueOut("n 256", x, 2, 3, 137, 108, 193, 241, 231, 228);
        x.paint(0, 0, -1L);
        x.act(2, 0, 8, 256);
        dueOut("of 255s", x, 2, 3, 255 ^ 137, 255 ^ 109, 255 ^ 195, 255 ^ 242, 255 ^ 227, 255 ^ 225);
    }

    private static void leave() {
        leaveTakesWordsOut();
        leaveNoneAndAll();
    }

    // The DRAWS in ROUND 3 are 59, 97, 1, 83, 73, 93, 97.
    private static void leaveTakesWordsOut() {
        checks.sentence("Terms", "3 LEAVE n: of WORDS: each in turn goes, if a DRAW below 100 is below n.");
        BatchOrder x = Sample.ofWords(WORDS);
        checks.due("n 1", x.act(3, 0, 3, 1), 7);
        dueOut("n as high as the third DRAW", x, 0, 0, WORDS);
        checks.due("n 2", x.act(3, 0, 3, 2), 6);
        dueOut("n one higher", x, 0, 0, 10, 20, 40, 50, 60, 70);
        x.act(3, 0, 3, 59);
        dueOut("n as high as the first DRAW", x, 0, 0, 10, 20, 40, 50, 60, 70);
        x.act(3, 0, 3, 60);
        dueOut("n one higher", x, 0, 0, 20, 40, 50, 60, 70);
        x.act(3, 0, 3, 97);
        dueOut("n as high as the last DRAW", x, 0, 0, 20, 70);
        checks.due("n 98", x.act(3, 0, 3, 98), 0);
        dueOut("n one higher", x, 0, 0);
    }

    // The first DRAW in ROUND 39 is 0, in ROUND 13 it is 99.
    private static void leaveNoneAndAll() {
        checks.sentence("Terms", "each in turn goes, if a DRAW below 100 is below n.");
        BatchOrder x = Sample.ofWords(4);
        checks.due("DRAW 0, n 0", x.act(3, 0, 39, 0), 1);
        checks.due("DRAW 0, n 1", x.act(3, 0, 39, 1), 0);
        checks.due("DRAW 99, n 99", x.act(3, 0, 13, 99), 1);
        checks.due("DRAW 99, n 100", x.act(3, 0, 13, 100), 0);
        BatchOrder none = Sample.ofWords();
        for (int n : new int[] {0, 50, 100}) {
            checks.due("no WORDS, n " + n, none.act(3, 0, 0, n), 0);
            checks.due("like no WORDS", none.like(0), 1);
        }
        BatchOrder all = Sample.ofLengths(40);
        checks.due("forty WORDS, n 0", all.act(3, 0, 0, 0), 40);
        checks.due("all of them", all.like(0), 1);
        checks.due("forty WORDS, n 100", all.act(3, 0, 0, 100), 0);
    }

    private static void swap() {
        swapChangesPlaces();
        swapOfTwoAndForty();
    }

    private static void swapChangesPlaces() {
        checks.sentence("Terms",
            "4 SWAP n: n times the one at a DRAW below LENGTH - 1 and the one behind it change places.");
        BatchOrder x = Sample.ofWords(WORDS);
        checks.due("n 0", x.act(4, 0, 3, 0), 7);
        dueOut("n 0", x, 0, 0, WORDS);
        x.act(4, 0, 3, 1);
        dueOut("n 1", x, 0, 0, 10, 20, 40, 30, 50, 60, 70);
        x.act(4, 0, 3, 3);
        dueOut("n 3", x, 0, 0, 10, 20, 30, 50, 40, 60, 70);
        checks.due("n 50", x.act(4, 0, 3, 50), 7);
        dueOut("n 50", x, 0, 0, 30, 50, 70, 20, 10, 40, 60);
    }

    private static void swapOfTwoAndForty() {
        checks.sentence("Terms", "the one at a DRAW below LENGTH - 1 and the one behind it change places.");
        BatchOrder two = Sample.ofWords(8, 9);
        two.act(4, 0, 0, 1);
        dueOut("two WORDS, n 1", two, 0, 0, 9, 8);
        two.act(4, 0, 0, 50);
        dueOut("two WORDS, n 50", two, 0, 0, 8, 9);
        BatchOrder three = Sample.ofWords(7, 8, 9);
        three.act(4, 0, 0, 1);
        dueOut("three WORDS, the last place", three, 0, 0, 7, 9, 8);
        three.act(4, 0, 1, 1);
        dueOut("three WORDS, the first place", three, 0, 0, 8, 7, 9);
        BatchOrder all = Sample.ofLengths(40);
        all.act(4, 0, 0, 50);
        dueOut("forty WORDS, n 50", all, 0, 0, 2, 0, 3, 6, 1, 4, 5, 7, 8, 9, 11, 14, 10, 12, 13, 15, 16, 21, 19, 17, 18,
            20, 22, 23, 26, 24, 28, 25, 27, 32, 29, 34, 30, 31, 35, 33, 37, 36, 38, 39);
    }

    private static void failures() {
        failureNull();
        failureCast();
        failureIndexOfCrop();
        failureIndexOfSwap();
        failureSize();
        failureZeroOfNoise();
        failureZeroOfSwap();
        firstOfSeveral();
    }

    private static void failureNull() {
        checks.sentence("Terms", "FAILURES: -10 less 1 NULL: the ROW is NOTHING;");
        BatchOrder x = five();
        for (int act = 0; act < 5; act++) {
            checks.due("ACT " + act + ", n 0", x.act(act, 2, 0, 0), NULL);
            checks.due("ACT " + act + ", n 1", x.act(act, 2, 0, 1), NULL);
        }
    }

    private static void failureCast() {
        checks.sentence("Terms", "2 CAST: it is of the other KIND;");
        BatchOrder x = five();
        for (int act = 0; act < 5; act++) {
            checks.due("ACT " + act, x.act(act, act < 3 ? 1 : 0, 0, 1), CAST);
            checks.due("ACT " + act + ", n 0", x.act(act, act < 3 ? 3 : 0, 0, 0), CAST);
        }
    }

    private static void failureIndexOfCrop() {
        checks.sentence("Terms", "3 INDEX: CROP: n is above HIGH or WIDE;");
        int[][] sides = {{2, 3}, {3, 2}, {1, 40}, {40, 1}, {1, 1}, {39, 40}, {40, 39}};
        for (int[] s : sides) {
            BatchOrder x = new BatchOrder();
            x.picture(s[0], s[1], 0, 0);
            int least = Math.min(s[0], s[1]);
            checks.due(s[0] + " of " + s[1] + ", n " + least, x.act(1, 0, 0, least), least * least);
            checks.due(s[0] + " of " + s[1] + ", n one more", x.act(1, 0, 0, least + 1), INDEX);
            checks.due(s[0] + " of " + s[1] + ", n 40", x.act(1, 0, 0, 40), INDEX);
        }
    }

    private static void failureIndexOfSwap() {
        checks.sentence("Terms", "of SWAP: LENGTH is 0, and n above 0;");
        BatchOrder x = Sample.ofWords();
        checks.due("n 1", x.act(4, 0, 0, 1), INDEX);
        checks.due("n 50", x.act(4, 0, 0, 50), INDEX);
        checks.due("n 0", x.act(4, 0, 0, 0), 0);
        checks.due("no WORDS then", x.out(-1), 0);
    }

    private static void failureSize() {
        checks.sentence("Terms", "5 SIZE: CROP of n below 0;");
        BatchOrder x = Sample.ofPicture(2, 3);
        checks.due("n -1", x.act(1, 0, 0, -1), SIZE);
        checks.due("the lowest n", x.act(1, 0, 0, LOWEST), SIZE);
        checks.due("n 0", x.act(1, 0, 0, 0), 0);
    }

    private static void failureZeroOfNoise() {
        checks.sentence("Terms", "6 ZERO: a DRAW below 0 (NOISE of n 0 and a byte there is;");
        BatchOrder x = Sample.ofPicture(1, 1);
        checks.due("a single byte, n 0", x.act(2, 0, 0, 0), ZERO);
        checks.due("a single byte, n 1", x.act(2, 0, 0, 1), 1);
        BatchOrder large = new BatchOrder();
        large.picture(40, 40, 0, 0);
        checks.due("the most bytes, n 0", large.act(2, 0, 0, 0), ZERO);
    }

    private static void failureZeroOfSwap() {
        checks.sentence("Terms", "SWAP of LENGTH 1, n above 0);");
        BatchOrder x = Sample.ofWords(6);
        checks.due("n 1", x.act(4, 0, 0, 1), ZERO);
        checks.due("n 50", x.act(4, 0, 0, 50), ZERO);
        checks.due("n 0", x.act(4, 0, 0, 0), 1);
        dueOut("n 0", x, 0, 0, 6);
        x.word(0, 7);
        checks.due("LENGTH 2, n 1", x.act(4, 0, 0, 1), 2);
    }

    private static void firstOfSeveral() {
        checks.sentence("Terms", "of several the first here.");
        BatchOrder x = five();
        checks.due("NULL ahead of INDEX: CROP", x.act(1, 2, 0, 40), NULL);
        checks.due("NULL ahead of INDEX: SWAP", x.act(4, 2, 0, 1), NULL);
        checks.due("NULL ahead of SIZE", x.act(1, 2, 0, -1), NULL);
        checks.due("NULL ahead of ZERO", x.act(2, 2, 0, 0), NULL);
        checks.due("CAST ahead of INDEX: CROP", x.act(1, 1, 0, 40), CAST);
        checks.due("CAST ahead of SIZE", x.act(1, 1, 0, -1), CAST);
        checks.due("CAST ahead of SIZE: no WORDS", x.act(1, 3, 0, LOWEST), CAST);
        checks.due("CAST ahead of ZERO: NOISE", x.act(2, 1, 0, 0), CAST);
        BatchOrder single = Sample.ofPicture(1, 1);
        checks.due("CAST ahead of ZERO: SWAP", single.act(4, 0, 0, 1), CAST);
    }

    private static void refusals() {
        noSuchRowActRound();
        nWithin("NOISE's n not 0 .. 256", 2, 0, 256);
        nWithin("LEAVE's not 0 .. 100", 3, 1, 100);
        nWithin("SWAP's not 0 .. 50", 4, 1, 50);
        cropAboveForty();
    }

    private static void noSuchRowActRound() {
        checks.sentence("Terms", "BAD: no such ROW, ACT, ROUND;");
        BatchOrder x = five();
        int[][] wrong = {{-1, 0, 0}, {5, 0, 0}, {LOWEST, 0, 0}, {HIGHEST, 0, 0}, {0, -1, 0}, {0, 5, 0}, {0, 60, 0},
            {0, LOWEST, 0}, {0, HIGHEST, 0}, {0, 0, -1}, {0, 0, 1001}, {0, 0, LOWEST}, {0, 0, HIGHEST},
            {5, 2, 0}, {0, 2, 1001}, {3, 0, -1}};
        for (int[] w : wrong) {
            checks.due("act" + java.util.Arrays.toString(w), x.act(w[0], w[1], w[2], 1), BAD);
        }
        checks.due("without rows", new BatchOrder().act(0, 0, 0, 0), BAD);
    }

    /** The n just within are done on a ROW of the right KIND; those without are BAD on all KINDS. */
    private static void nWithin(String quote, int act, int right, int most) {
        checks.sentence("Terms", quote);
        BatchOrder x = five();
        for (int row = 0; row < 5; row++) {
            for (int n : new int[] {-1, most + 1, LOWEST, HIGHEST}) {
                checks.due("ROW " + row + ", n " + n, x.act(act, row, 0, n), BAD);
            }
        }
        checks.due("n " + most, x.act(act, right, 0, most), act == 3 ? 0 : x.of(right, 3));
        checks.due("n 1", x.act(act, right, 0, 1) >= 0 ? 1 : 0, 1);
        checks.due("n 0", x.act(act, right, 0, 0), act == 2 ? ZERO : 3);
    }

    private static void cropAboveForty() {
        checks.sentence("Terms", "CROP's above 40.");
        BatchOrder x = five();
        x.picture(40, 40, 0, 0);
        for (int row = 0; row < 6; row++) {
            checks.due("ROW " + row + ", n 41", x.act(1, row, 0, 41), BAD);
            checks.due("ROW " + row + ", the highest n", x.act(1, row, 0, HIGHEST), BAD);
        }
        checks.due("n 40", x.act(1, 5, 0, 40), 1600);
    }

    private static void act() {
        actAnswersLength();
        actRefuses();
        actFails();
    }

    private static void actAnswersLength() {
        checks.sentence("Promise 17", "An ACT (0 .. 4) on a ROW in a ROUND: LENGTH of OUT.");
        BatchOrder x = five();
        int[] n = {0, 2, 1, 0, 2};
        int[] want = {6, 4, 6, 3, 3};
        for (int act = 0; act < 5; act++) {
            checks.due("ACT " + act, x.act(act, act < 3 ? 0 : 1, 3, n[act]), want[act]);
            checks.due("out(-1)", x.out(-1), want[act]);
        }
        checks.due("ACT -1", x.act(-1, 0, 3, 0), BAD);
        checks.due("ACT 5", x.act(5, 0, 3, 0), BAD);
    }

    private static void actRefuses() {
        checks.sentence("Promise 17", "BAD;");
        BatchOrder x = five();
        checks.due("BAD ROUND ahead of NULL", x.act(0, 2, 1001, 0), BAD);
        checks.due("BAD n ahead of NULL", x.act(4, 2, 0, 51), BAD);
        checks.due("BAD n ahead of CAST", x.act(2, 1, 0, 257), BAD);
        checks.due("BAD n ahead of INDEX", x.act(1, 0, 0, 41), BAD);
        checks.due("BAD ROUND ahead of INDEX", x.act(1, 0, -1, 3), BAD);
        checks.due("BAD ROUND ahead of SIZE", x.act(1, 0, -1, -1), BAD);
        checks.due("BAD ROUND ahead of ZERO", x.act(2, 0, 1001, 0), BAD);
    }

    private static void actFails() {
        checks.sentence("Promise 17", "FAILURES.");
        BatchOrder x = five();
        checks.due("NULL", x.act(0, 2, 0, 0), NULL);
        checks.due("CAST", x.act(0, 1, 0, 0), CAST);
        checks.due("INDEX", x.act(1, 0, 0, 3), INDEX);
        checks.due("SIZE", x.act(1, 0, 0, -1), SIZE);
        checks.due("ZERO", x.act(4, 4, 0, 1), ZERO);
        checks.due("OUT as it was", x.out(-1), NULL);
    }

    private static void out() {
        outTellsItems();
        outTellsLengthAndSides();
        outOfNothingFails();
        outFailsBeyond();
        aWordMayBeAny();
    }

    private static void outTellsItems() {
        checks.sentence("Promise 18", "Of OUT: its WORD, byte i;");
        BatchOrder x = five();
        x.act(2, 0, 0, 1);
        checks.due("the first byte", x.out(0), 0);
        checks.due("the last byte", x.out(5), 5);
        x.act(3, 1, 0, 0);
        checks.due("the first WORD", x.out(0), 7);
        checks.due("the last WORD", x.out(2), 9);
    }

    private static void outTellsLengthAndSides() {
        checks.sentence("Promise 18", "i = -1: LENGTH, -2: HIGH, -3: WIDE (0 of WORDS).");
        BatchOrder x = five();
        x.act(2, 0, 0, 1);
        checks.due("LENGTH", x.out(-1), 6);
        checks.due("HIGH", x.out(-2), 2);
        checks.due("WIDE", x.out(-3), 3);
        x.act(3, 1, 0, 0);
        checks.due("LENGTH of WORDS", x.out(-1), 3);
        checks.due("HIGH of WORDS", x.out(-2), 0);
        checks.due("WIDE of WORDS", x.out(-3), 0);
        x.act(3, 3, 0, 0);
        checks.due("LENGTH of no WORDS", x.out(-1), 0);
        x.act(1, 0, 0, 0);
        checks.due("LENGTH of no lines", x.out(-1), 0);
        checks.due("HIGH of no lines", x.out(-2), 0);
        checks.due("WIDE of no lines", x.out(-3), 0);
    }

    private static void outOfNothingFails() {
        checks.sentence("Promise 18", "FAILURES 1: it is NOTHING (of all);");
        BatchOrder x = five();
        for (int i : new int[] {0, 1, -1, -2, -3, -4, 1600, LOWEST, HIGHEST}) {
            checks.due("out(" + i + ")", x.out(i), NULL);
        }
        x.act(0, 2, 0, 0);
        checks.due("behind an ACT that failed", x.out(-1), NULL);
    }

    private static void outFailsBeyond() {
        checks.sentence("Promise 18", "; 3.");
        BatchOrder x = five();
        x.act(2, 0, 0, 1);
        for (int i : new int[] {6, 7, 1599, 1600, -4, LOWEST, HIGHEST}) {
            checks.due("out(" + i + ") of six bytes", x.out(i), INDEX);
        }
        x.act(3, 1, 0, 0);
        for (int i : new int[] {3, 39, 40, -4, LOWEST, HIGHEST}) {
            checks.due("out(" + i + ") of three WORDS", x.out(i), INDEX);
        }
        x.act(3, 3, 0, 0);
        checks.due("out(0) of no WORDS", x.out(0), INDEX);
        x.picture(40, 40, 0, 0);
        x.act(2, 5, 0, 1);
        checks.due("the last of all bytes", x.out(1599), 0);
        checks.due("behind it", x.out(1600), INDEX);
    }

    private static void aWordMayBeAny() {
        checks.sentence("Promise 18", "(A WORD may be any.)");
        BatchOrder x = Sample.ofWords(-1, -2, -3, -11, -13, LOWEST, HIGHEST, 0);
        x.act(3, 0, 0, 0);
        dueOut("as told", x, 0, 0, -1, -2, -3, -11, -13, LOWEST, HIGHEST, 0);
    }

    private static void like() {
        likeIsOfItsKind();
        likeIsOfItsSides();
        likeHasTheSameItems();
        likeRefuses();
    }

    private static void likeIsOfItsKind() {
        checks.sentence("Promise 19", "Whether OUT is like a ROW: of its KIND");
        BatchOrder x = new BatchOrder();
        x.picture(1, 1, 0, 0);
        x.row(0, 0, 0);
        x.word(1, 0);
        x.row(0, 0, 0);
        x.row(2, 0, 0);
        dueLike("NOTHING", x, 0, 0, 0, 1);
        x.act(2, 0, 0, 1);
        dueLike("a byte 0", x, 1, 0, 0, 0);
        x.act(3, 1, 0, 0);
        dueLike("a WORD 0", x, 0, 1, 0, 0);
        x.act(3, 2, 0, 0);
        dueLike("no WORDS", x, 0, 0, 1, 0);
        x.act(1, 0, 0, 0);
        dueLike("no lines", x, 0, 0, 0, 0);
    }

    private static void dueLike(String what, BatchOrder x, int... want) {
        for (int r = 0; r < want.length; r++) {
            checks.due(what + " like ROW " + r, x.like(r), want[r]);
        }
    }

    private static void likeIsOfItsSides() {
        checks.sentence("Promise 19", "of its KIND, HIGH, WIDE,");
        BatchOrder x = new BatchOrder();
        x.picture(2, 3, 0, 0);
        x.picture(3, 2, 0, 0);
        x.picture(1, 6, 0, 0);
        x.picture(2, 2, 0, 0);
        x.picture(2, 3, 7, 1000);
        x.act(2, 0, 0, 1);
        dueLike("2 lines of 3", x, 1, 0, 0, 0, 1);
        x.act(2, 3, 0, 1);
        dueLike("2 lines of 2", x, 0, 0, 0, 1, 0);
    }

    private static void likeHasTheSameItems() {
        checks.sentence("Promise 19", "with the same items: 1, 0.");
        BatchOrder x = Sample.ofWords(5);
        x.row(0, 0, 0);
        x.act(3, 0, 0, 0);
        x.word(0, 0);
        checks.due("the ROW has a WORD 0 more", x.like(0), 0);
        x.act(3, 0, 0, 0);
        x.word(1, 5);
        checks.due("OUT has a WORD 0 more", x.like(1), 0);
        x.word(1, 0);
        checks.due("another ROW with the same WORDS", x.like(1), 1);
        BatchOrder y = Sample.ofPicture(2, 3);
        y.act(2, 0, 0, 1);
        checks.due("the same bytes", y.like(0), 1);
        y.paint(0, 5, 0L);
        checks.due("the last byte is another", y.like(0), 0);
        y.paint(0, 0, 0x0101020304050000L);
        checks.due("the first byte is another", y.like(0), 0);
    }

    private static void likeRefuses() {
        checks.sentence("Promise 19", "BAD.");
        BatchOrder x = five();
        for (int row : new int[] {-1, 5, 60, LOWEST, HIGHEST}) {
            checks.due("like(" + row + ")", x.like(row), BAD);
        }
        checks.due("without rows", new BatchOrder().like(0), BAD);
    }
}
