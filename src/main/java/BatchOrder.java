/** The order in which rows are learnt from; the promises are numbered in ../shared/DOC.md. */
public final class BatchOrder {
    public static final int BAD = -1, FULL = -2, NONE = -3;

    private static final int FAILURE_NULL = -11;
    private static final int FAILURE_CAST = -12;
    private static final int FAILURE_INDEX = -13;
    private static final int FAILURE_SIZE = -15;
    private static final int FAILURE_ZERO = -16;

    private static final int WORDS = 0;
    private static final int PICTURE = 1;
    private static final int NOTHING = 2;

    private static final int MOST_ROWS = 60;
    private static final int MOST_WORDS = 40;
    private static final int MOST_SIDE = 40;
    private static final int LABELS = 8;
    private static final int MOST_WEIGHT = 1000;
    private static final int LAST_ROUND = 1000;
    private static final int MOST_WORKERS = 8;

    private static final int PLAIN = 0;
    private static final int LENGTHS = 1;
    private static final int WEIGHTED = 2;
    private static final int BALANCED = 3;
    private static final int BUFFERED = 4;

    private static final int TURN = 0;
    private static final int CROP = 1;
    private static final int NOISE = 2;
    private static final int LEAVE = 3;
    private static final int SWAP = 4;
    private static final int STREAM_OF_ACTS = 5;

    private final Rows rows = new Rows();
    private final Settings settings = new Settings();
    private final Draws draws = new Draws();
    private final Order order = new Order(rows, settings, draws);
    // OUT is one object used again and again, so that acts make nothing new.
    private final Content altered = new Content(NOTHING, 0, 0, MOST_SIDE * MOST_SIDE);

    private int wayAtHand = PLAIN;
    private int roundAtHand = 0;
    private int placeAtHand = 0;

    public BatchOrder() {
    }

    // ---- rows

    public int row(int kind, int label, int weight) {
        if ((kind != WORDS && kind != NOTHING) || !isLabel(label) || !isWeight(weight)) {
            return BAD;
        }
        if (rows.isFull()) {
            return FULL;
        }
        int room = kind == WORDS ? MOST_WORDS : 0;
        return rows.append(new Content(kind, 0, 0, room), label, weight);
    }

    public int picture(int high, int wide, int label, int weight) {
        if (!isSide(high) || !isSide(wide) || !isLabel(label) || !isWeight(weight)) {
            return BAD;
        }
        if (rows.isFull()) {
            return FULL;
        }
        return rows.append(new Content(PICTURE, high, wide, high * wide), label, weight);
    }

    public int word(int row, int v) {
        Content content = rows.find(row);
        if (content == null || content.kind != WORDS) {
            return BAD;
        }
        if (content.length >= MOST_WORDS) {
            return FULL;
        }
        content.append(v);
        return content.length;
    }

    public int paint(int row, int k, long v) {
        Content content = rows.find(row);
        if (content == null || content.kind != PICTURE || !content.holds(k)) {
            return BAD;
        }
        int end = Math.min(8, content.length - k);
        for (int b = 0; b < end; b++) {
            content.put(k + b, (int) (v >>> (56 - 8 * b)) & 255);
        }
        return 1;
    }

    public int mark(int row, int label, int weight) {
        if (!rows.has(row) || !isLabel(label) || !isWeight(weight)) {
            return BAD;
        }
        rows.relabel(row, label, weight);
        return 1;
    }

    public int of(int row, int what) {
        Content content = rows.find(row);
        if (content == null) {
            return BAD;
        }
        switch (what) {
            case 0: return content.kind;
            case 1: return rows.label(row);
            case 2: return rows.weight(row);
            case 3: return content.length;
            case 4: return content.high;
            case 5: return content.wide;
            default: return BAD;
        }
    }

    public long seed(long s) {
        long was = settings.start;
        settings.start = s;
        return was;
    }

    public int set(int what, int n) {
        if (!settings.allows(what, n)) {
            return BAD;
        }
        return settings.exchange(what, n);
    }

    // ---- batches

    public int count() throws ArithmeticException {
        if (settings.size == 0) {
            throw new ArithmeticException("SIZE is 0");
        }
        return settings.batchesOf(rows.many);
    }

    public int batch(int way, int round, int k, int i) {
        if (!isWay(way) || !isRound(round) || k < 0 || i < 0) {
            return BAD;
        }
        if (settings.size == 0 || !order.make(way, round)) {
            return FAILURE_ZERO;
        }
        return rowInBatch(k, i);
    }

    public int share(int way, int round, int k, int m, int w, int i) {
        if (!isWay(way) || !isRound(round) || k < 0 || i < 0) {
            return BAD;
        }
        if (m < 1 || m > MOST_WORKERS || w < 0 || w >= m) {
            return BAD;
        }
        if (settings.size == 0 || !order.make(way, round)) {
            return FAILURE_ZERO;
        }
        // As a long, since i may be any int.
        return rowInBatch(k, (long) i * m + w);
    }

    public int once(int way, int round) {
        if (!isWay(way) || !isRound(round)) {
            return BAD;
        }
        if (!order.make(way, round)) {
            return FAILURE_ZERO;
        }
        return order.hasEachOnce() ? 1 : 0;
    }

    public int resume(int way, int round, int place) {
        if (!isWay(way) || !isRound(round) || place < 0 || place > rows.many) {
            return BAD;
        }
        wayAtHand = way;
        roundAtHand = round;
        placeAtHand = place;
        return 1;
    }

    public int next() {
        if (rows.many == 0) {
            return NONE;
        }
        int round = roundAtHand;
        int place = placeAtHand;
        if (place >= rows.many) {
            round = round >= LAST_ROUND ? 0 : round + 1;
            place = 0;
        }
        // A failure changes nothing, so the step to a new round waits until the order stands.
        if (!order.make(wayAtHand, round)) {
            return FAILURE_ZERO;
        }
        roundAtHand = round;
        placeAtHand = place + 1;
        return order.rowAt(place);
    }

    public int at(int what) {
        switch (what) {
            case 0: return wayAtHand;
            case 1: return roundAtHand;
            case 2: return placeAtHand;
            default: return BAD;
        }
    }

    // ---- acts

    public int act(int act, int row, int round, int n) {
        Content from = rows.find(row);
        if (from == null || !isRound(round) || !Acts.allows(act, n)) {
            return BAD;
        }
        int failure = Acts.failure(act, from, n);
        if (failure != 0) {
            return failure;
        }
        draws.begin(settings.start);
        draws.key(STREAM_OF_ACTS);
        draws.key(row);
        draws.key(round);
        draws.key(act);
        Acts.alter(act, from, n, draws, altered);
        return altered.length;
    }

    public int out(int i) {
        if (altered.kind == NOTHING) {
            return FAILURE_NULL;
        }
        switch (i) {
            case -1: return altered.length;
            case -2: return altered.high;
            case -3: return altered.wide;
            default: return altered.holds(i) ? altered.item(i) : FAILURE_INDEX;
        }
    }

    public int like(int row) {
        Content content = rows.find(row);
        if (content == null) {
            return BAD;
        }
        return content.isLike(altered) ? 1 : 0;
    }

    private int rowInBatch(int k, long i) {
        if (k >= settings.batchesOf(rows.many) || i >= settings.size) {
            return NONE;
        }
        return order.rowAt(k * settings.size + (int) i);
    }

    private static boolean isLabel(int label) {
        return label >= 0 && label < LABELS;
    }

    private static boolean isWeight(int weight) {
        return weight >= 0 && weight <= MOST_WEIGHT;
    }

    private static boolean isSide(int side) {
        return side >= 1 && side <= MOST_SIDE;
    }

    private static boolean isWay(int way) {
        return way >= PLAIN && way <= BUFFERED;
    }

    private static boolean isRound(int round) {
        return round >= 0 && round <= LAST_ROUND;
    }

    /** A STREAM and the DRAWS from it. */
    private static final class Draws {
        private static final long STEP = 0x9E3779B97F4A7C15L;
        private long state = 0;

        void begin(long start) {
            state = start;
        }

        void key(int k) {
            state = mixed(state ^ (k * STEP));
        }

        int below(int n) {
            // Callers refuse n below 1 themselves; this keeps the division safe all the same.
            if (n < 1) {
                return 0;
            }
            state += STEP;
            return (int) ((mixed(state) >>> 1) % n);
        }

        void shuffle(int[] numbers, int first, int many) {
            if (first < 0 || many > numbers.length - first) {
                return;
            }
            for (int k = many - 1; k >= 1; k--) {
                int other = first + below(k + 1);
                int kept = numbers[first + k];
                numbers[first + k] = numbers[other];
                numbers[other] = kept;
            }
        }

        private static long mixed(long z) {
            z = (z ^ (z >>> 30)) * 0xBF58476D1CE4E5B9L;
            z = (z ^ (z >>> 27)) * 0x94D049BB133111EBL;
            return z ^ (z >>> 31);
        }
    }

    /** What a ROW or OUT holds: KIND, sides and items. */
    private static final class Content {
        private final int[] items;
        private int kind;
        private int high;
        private int wide;
        private int length;

        Content(int kind, int high, int wide, int room) {
            this.items = new int[Math.max(0, room)];
            this.kind = kind;
            this.high = high;
            this.wide = wide;
            this.length = high * wide;
        }

        boolean holds(int k) {
            return k >= 0 && k < length && k < items.length;
        }

        int item(int k) {
            return holds(k) ? items[k] : 0;
        }

        void put(int k, int v) {
            if (holds(k)) {
                items[k] = v;
            }
        }

        void append(int v) {
            if (length >= 0 && length < items.length) {
                items[length] = v;
                length++;
            }
        }

        void becomePicture(int newHigh, int newWide) {
            kind = PICTURE;
            high = newHigh;
            wide = newWide;
            length = newHigh * newWide;
        }

        void becomeNoWords() {
            kind = WORDS;
            high = 0;
            wide = 0;
            length = 0;
        }

        void swapWithNext(int k) {
            int kept = item(k);
            put(k, item(k + 1));
            put(k + 1, kept);
        }

        boolean isLike(Content other) {
            if (kind != other.kind || high != other.high || wide != other.wide || length != other.length) {
                return false;
            }
            for (int k = 0; k < length; k++) {
                if (item(k) != other.item(k)) {
                    return false;
                }
            }
            return true;
        }
    }

    /** The ROWS with their LABELS and WEIGHTS. */
    private static final class Rows {
        private final Content[] contents = new Content[MOST_ROWS];
        private final int[] labels = new int[MOST_ROWS];
        private final int[] weights = new int[MOST_ROWS];
        private int many = 0;

        boolean isFull() {
            return many >= MOST_ROWS;
        }

        boolean has(int row) {
            return row >= 0 && row < many && row < MOST_ROWS;
        }

        /** Null where there is no such ROW. */
        Content find(int row) {
            return has(row) ? contents[row] : null;
        }

        int append(Content content, int label, int weight) {
            if (isFull()) {
                return FULL;
            }
            int row = many;
            contents[row] = content;
            many++;
            relabel(row, label, weight);
            return row;
        }

        void relabel(int row, int label, int weight) {
            if (has(row)) {
                labels[row] = label;
                weights[row] = weight;
            }
        }

        int label(int row) {
            return has(row) ? labels[row] : 0;
        }

        int weight(int row) {
            return has(row) ? weights[row] : 0;
        }

        int length(int row) {
            Content content = find(row);
            return content == null ? 0 : content.length;
        }

        int sumOfWeights() {
            int sum = 0;
            for (int r = 0; r < many; r++) {
                sum += weight(r);
            }
            return sum;
        }
    }

    /** SEED, SIZE, GROUP, BUFFER and DROPS. */
    private static final class Settings {
        private static final int MOST_SIZE = 20;
        private long start = 0;
        private int size = 4;
        private int group = 8;
        private int buffer = 5;
        private int drops = 0;

        boolean allows(int what, int n) {
            switch (what) {
                case 0: return n >= 0 && n <= MOST_SIZE;
                case 1:
                case 2: return n >= 1 && n <= MOST_ROWS;
                case 3: return n == 0 || n == 1;
                default: return false;
            }
        }

        int exchange(int what, int n) {
            int was;
            switch (what) {
                case 0:
                    was = size;
                    size = n;
                    return was;
                case 1:
                    was = group;
                    group = n;
                    return was;
                case 2:
                    was = buffer;
                    buffer = n;
                    return was;
                case 3:
                    was = drops;
                    drops = n;
                    return was;
                default:
                    return BAD;
            }
        }

        int batchesOf(int many) {
            if (size < 1) {
                return 0;
            }
            return drops == 1 ? many / size : (many + size - 1) / size;
        }
    }

    /** The ORDER of a ROUND by a WAY, made anew in the same arrays each time it is asked for. */
    private static final class Order {
        private final Rows rows;
        private final Settings settings;
        private final Draws draws;
        private final int[] places = new int[MOST_ROWS];
        private int many = 0;
        // The BUFFER, the ROWS of each LABEL, or how often each ROW came: never two at once.
        private final int[] scratch = new int[MOST_ROWS];
        // For BALANCED, by LABEL: where its ROWS stand in scratch, and how far they are used.
        private final int[] firsts = new int[LABELS];
        private final int[] sizes = new int[LABELS];
        private final int[] taken = new int[LABELS];
        private final int[] mixings = new int[LABELS];

        Order(Rows rows, Settings settings, Draws draws) {
            this.rows = rows;
            this.settings = settings;
            this.draws = draws;
        }

        /** False where the ORDER can't be made since all WEIGHTS are 0. */
        boolean make(int way, int round) {
            many = Math.min(rows.many, MOST_ROWS);
            if (way == WEIGHTED && many > 0 && rows.sumOfWeights() == 0) {
                return false;
            }
            beginStream(way, round);
            switch (way) {
                case LENGTHS:
                    makePlain();
                    sortParts();
                    break;
                case WEIGHTED:
                    makeWeighted();
                    break;
                case BALANCED:
                    makeBalanced(round);
                    break;
                case BUFFERED:
                    makeBuffered();
                    break;
                default:
                    makePlain();
                    break;
            }
            return true;
        }

        int rowAt(int place) {
            return place >= 0 && place < many ? places[place] : NONE;
        }

        boolean hasEachOnce() {
            for (int r = 0; r < many; r++) {
                scratch[r] = 0;
            }
            for (int p = 0; p < many; p++) {
                int row = places[p];
                if (row < 0 || row >= many || scratch[row] > 0) {
                    return false;
                }
                scratch[row] = 1;
            }
            return true;
        }

        private void beginStream(int way, int round) {
            draws.begin(settings.start);
            draws.key(way);
            draws.key(round);
        }

        private void makePlain() {
            for (int r = 0; r < many; r++) {
                places[r] = r;
            }
            draws.shuffle(places, 0, many);
        }

        private void sortParts() {
            int step = Math.max(1, settings.group);
            for (int first = 0; first < many; first += step) {
                sortByLength(first, Math.min(many, first + step));
            }
        }

        // By insertion, since ROWS of the same LENGTH must stay as they stand.
        private void sortByLength(int first, int end) {
            for (int p = first + 1; p < end; p++) {
                int row = places[p];
                int length = rows.length(row);
                int to = p;
                while (to > first && rows.length(places[to - 1]) > length) {
                    places[to] = places[to - 1];
                    to--;
                }
                places[to] = row;
            }
        }

        private void makeWeighted() {
            int sum = rows.sumOfWeights();
            for (int p = 0; p < many; p++) {
                places[p] = rowAbove(draws.below(sum));
            }
        }

        private int rowAbove(int x) {
            int upTo = 0;
            for (int r = 0; r < many; r++) {
                upTo += rows.weight(r);
                if (upTo > x) {
                    return r;
                }
            }
            return NONE;
        }

        private void makeBalanced(int round) {
            layOutLabels();
            int made = 0;
            // Each turn through the LABELS takes a ROW at least, so this many steps are enough.
            for (int step = 0; step < LABELS * MOST_ROWS && made < many; step++) {
                int label = step % LABELS;
                if (sizes[label] < 1) {
                    continue;
                }
                if (taken[label] >= sizes[label]) {
                    mixLabel(label, round);
                }
                places[made] = rowHeld(firsts[label] + taken[label]);
                taken[label]++;
                made++;
            }
        }

        private void layOutLabels() {
            int first = 0;
            for (int label = 0; label < LABELS; label++) {
                int size = 0;
                for (int r = 0; r < many; r++) {
                    if (rows.label(r) == label) {
                        size++;
                    }
                }
                firsts[label] = first;
                sizes[label] = size;
                // As if all had come, so that the first one taken has them mixed.
                taken[label] = size;
                mixings[label] = 0;
                first += size;
            }
        }

        private int rowHeld(int k) {
            return k >= 0 && k < scratch.length ? scratch[k] : NONE;
        }

        private void mixLabel(int label, int round) {
            int place = firsts[label];
            for (int r = 0; r < many; r++) {
                if (rows.label(r) == label && place < scratch.length) {
                    scratch[place] = r;
                    place++;
                }
            }
            beginStream(BALANCED, round);
            draws.key(label);
            draws.key(mixings[label]);
            draws.shuffle(scratch, firsts[label], sizes[label]);
            mixings[label]++;
            taken[label] = 0;
        }

        private void makeBuffered() {
            int held = Math.min(many, settings.buffer);
            for (int r = 0; r < held; r++) {
                scratch[r] = r;
            }
            int coming = held;
            for (int p = 0; p < many && held > 0; p++) {
                int k = draws.below(held);
                places[p] = scratch[k];
                if (coming < many) {
                    scratch[k] = coming;
                    coming++;
                } else {
                    held--;
                    scratch[k] = scratch[held];
                }
            }
        }
    }

    /** The ACTS: which n they take, where they fail, what they make. */
    private static final class Acts {
        private static final int MOST_NOISE = 256;
        private static final int MOST_LEAVE = 100;
        private static final int MOST_SWAPS = 50;

        static boolean allows(int act, int n) {
            switch (act) {
                case TURN: return true;
                case CROP: return n <= MOST_SIDE;
                case NOISE: return n >= 0 && n <= MOST_NOISE;
                case LEAVE: return n >= 0 && n <= MOST_LEAVE;
                case SWAP: return n >= 0 && n <= MOST_SWAPS;
                default: return false;
            }
        }

        /** 0 where the ACT can be done. */
        static int failure(int act, Content from, int n) {
            if (from.kind == NOTHING) {
                return FAILURE_NULL;
            }
            int kind = act == LEAVE || act == SWAP ? WORDS : PICTURE;
            if (from.kind != kind) {
                return FAILURE_CAST;
            }
            switch (act) {
                case CROP: return failureOfCrop(from, n);
                case NOISE: return n == 0 && from.length > 0 ? FAILURE_ZERO : 0;
                case SWAP: return failureOfSwap(from, n);
                default: return 0;
            }
        }

        private static int failureOfCrop(Content from, int n) {
            if (n > from.high || n > from.wide) {
                return FAILURE_INDEX;
            }
            return n < 0 ? FAILURE_SIZE : 0;
        }

        private static int failureOfSwap(Content from, int n) {
            if (n == 0 || from.length > 1) {
                return 0;
            }
            return from.length == 0 ? FAILURE_INDEX : FAILURE_ZERO;
        }

        static void alter(int act, Content from, int n, Draws draws, Content to) {
            switch (act) {
                case TURN:
                    turn(from, draws.below(4), to);
                    break;
                case CROP:
                    crop(from, n, draws, to);
                    break;
                case NOISE:
                    addNoise(from, n, draws, to);
                    break;
                case LEAVE:
                    leaveOut(from, n, draws, to);
                    break;
                default:
                    swapSome(from, n, draws, to);
                    break;
            }
        }

        private static void turn(Content from, int quarters, Content to) {
            boolean upright = quarters % 2 == 0;
            to.becomePicture(upright ? from.high : from.wide, upright ? from.wide : from.high);
            for (int y = 0; y < from.high; y++) {
                for (int x = 0; x < from.wide; x++) {
                    to.put(turnedPlace(from, y, x, quarters), from.item(y * from.wide + x));
                }
            }
        }

        private static int turnedPlace(Content from, int y, int x, int quarters) {
            int lastLine = from.high - 1;
            int last = from.wide - 1;
            switch (quarters) {
                case 1: return x * from.high + (lastLine - y);
                case 2: return (lastLine - y) * from.wide + (last - x);
                case 3: return (last - x) * from.high + y;
                default: return y * from.wide + x;
            }
        }

        private static void crop(Content from, int n, Draws draws, Content to) {
            int line = draws.below(from.high - n + 1);
            int place = draws.below(from.wide - n + 1);
            to.becomePicture(n, n);
            for (int y = 0; y < n; y++) {
                for (int x = 0; x < n; x++) {
                    to.put(y * n + x, from.item((line + y) * from.wide + place + x));
                }
            }
        }

        private static void addNoise(Content from, int n, Draws draws, Content to) {
            to.becomePicture(from.high, from.wide);
            for (int k = 0; k < from.length; k++) {
                to.put(k, from.item(k) ^ draws.below(n));
            }
        }

        private static void leaveOut(Content from, int n, Draws draws, Content to) {
            to.becomeNoWords();
            for (int k = 0; k < from.length; k++) {
                if (draws.below(100) >= n) {
                    to.append(from.item(k));
                }
            }
        }

        private static void swapSome(Content from, int n, Draws draws, Content to) {
            to.becomeNoWords();
            for (int k = 0; k < from.length; k++) {
                to.append(from.item(k));
            }
            for (int time = 0; time < n; time++) {
                to.swapWithNext(draws.below(from.length - 1));
            }
        }
    }
}
