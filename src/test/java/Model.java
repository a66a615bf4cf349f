import java.math.BigInteger;
import java.util.ArrayList;
import java.util.Collections;
import java.util.Comparator;
import java.util.HashMap;
import java.util.List;
import java.util.Map;
import java.util.TreeMap;

/** The document told a second time, with lists and big numbers, for ModelTest to compare with. */
final class Model {
    private static final BigInteger TWO_64 = BigInteger.ONE.shiftLeft(64);
    private static final BigInteger STEP = new BigInteger("9E3779B97F4A7C15", 16);

    private static final class Stream {
        private BigInteger state;

        Stream(long seed, int... keys) {
            state = BigInteger.valueOf(seed).mod(TWO_64);
            for (int k : keys) {
                state = mix(state.xor(STEP.multiply(BigInteger.valueOf(k)).mod(TWO_64)));
            }
        }

        int draw(int n) {
            state = state.add(STEP).mod(TWO_64);
            return mix(state).shiftRight(1).mod(BigInteger.valueOf(n)).intValueExact();
        }

        void mixing(List<Integer> numbers) {
            for (int k = numbers.size() - 1; k >= 1; k--) {
                Collections.swap(numbers, k, draw(k + 1));
            }
        }

        private static BigInteger mix(BigInteger z) {
            z = z.xor(z.shiftRight(30)).multiply(new BigInteger("BF58476D1CE4E5B9", 16)).mod(TWO_64);
            z = z.xor(z.shiftRight(27)).multiply(new BigInteger("94D049BB133111EB", 16)).mod(TWO_64);
            return z.xor(z.shiftRight(31));
        }
    }

    private static final class Row {
        int kind;
        int label;
        int weight;
        int high;
        int wide;
        List<Integer> items = new ArrayList<>();
    }

    private final List<Row> rows = new ArrayList<>();
    private final int[] settings = {4, 8, 5, 0};
    private final int[] hand = {0, 0, 0};
    private long seed = 0;
    private Row out = new Row();

    Model() {
        out.kind = 2;
    }

    private static boolean in(int n, int least, int most) {
        return least <= n && n <= most;
    }

    private int add(int kind, int high, int wide, int label, int weight) {
        if (!in(label, 0, 7) || !in(weight, 0, 1000)) {
            return -1;
        }
        if (rows.size() == 60) {
            return -2;
        }
        Row row = new Row();
        row.kind = kind;
        row.high = high;
        row.wide = wide;
        row.label = label;
        row.weight = weight;
        row.items.addAll(Collections.nCopies(high * wide, 0));
        rows.add(row);
        return rows.size() - 1;
    }

    int row(int kind, int label, int weight) {
        return kind == 0 || kind == 2 ? add(kind, 0, 0, label, weight) : -1;
    }

    int picture(int high, int wide, int label, int weight) {
        return in(high, 1, 40) && in(wide, 1, 40) ? add(1, high, wide, label, weight) : -1;
    }

    private boolean isRow(int row) {
        return in(row, 0, rows.size() - 1);
    }

    int word(int row, int v) {
        if (!isRow(row) || rows.get(row).kind != 0) {
            return -1;
        }
        List<Integer> words = rows.get(row).items;
        if (words.size() == 40) {
            return -2;
        }
        words.add(v);
        return words.size();
    }

    int paint(int row, int k, long v) {
        if (!isRow(row) || rows.get(row).kind != 1 || !in(k, 0, rows.get(row).items.size() - 1)) {
            return -1;
        }
        List<Integer> bytes = rows.get(row).items;
        byte[] laid = java.nio.ByteBuffer.allocate(8).putLong(v).array();
        for (int b = 0; b < 8 && k + b < bytes.size(); b++) {
            bytes.set(k + b, Byte.toUnsignedInt(laid[b]));
        }
        return 1;
    }

    int mark(int row, int label, int weight) {
        if (!isRow(row) || !in(label, 0, 7) || !in(weight, 0, 1000)) {
            return -1;
        }
        rows.get(row).label = label;
        rows.get(row).weight = weight;
        return 1;
    }

    int of(int row, int what) {
        if (!isRow(row) || !in(what, 0, 5)) {
            return -1;
        }
        Row r = rows.get(row);
        return new int[] {r.kind, r.label, r.weight, r.items.size(), r.high, r.wide}[what];
    }

    long seed(long s) {
        long was = seed;
        seed = s;
        return was;
    }

    int set(int what, int n) {
        int[][] ends = {{0, 20}, {1, 60}, {1, 60}, {0, 1}};
        if (!in(what, 0, 3) || !in(n, ends[what][0], ends[what][1])) {
            return -1;
        }
        int was = settings[what];
        settings[what] = n;
        return was;
    }

    private int sum() {
        return rows.stream().mapToInt(r -> r.weight).sum();
    }

    /** Null where it is a FAILURE. */
    private List<Integer> order(int way, int round) {
        List<Integer> all = new ArrayList<>();
        for (int r = 0; r < rows.size(); r++) {
            all.add(r);
        }
        switch (way) {
            case 0:
                new Stream(seed, 0, round).mixing(all);
                return all;
            case 1:
                return lengths(all, round);
            case 2:
                return rows.isEmpty() || sum() > 0 ? weighted(all, round) : null;
            case 3:
                return balanced(all, round);
            default:
                return buffered(all, round);
        }
    }

    private List<Integer> lengths(List<Integer> all, int round) {
        new Stream(seed, 1, round).mixing(all);
        for (int first = 0; first < all.size(); first += settings[1]) {
            all.subList(first, Math.min(all.size(), first + settings[1]))
                .sort(Comparator.comparingInt(r -> rows.get(r).items.size()));
        }
        return all;
    }

    private List<Integer> weighted(List<Integer> all, int round) {
        List<Integer> tickets = new ArrayList<>();
        for (int r : all) {
            tickets.addAll(Collections.nCopies(rows.get(r).weight, r));
        }
        Stream stream = new Stream(seed, 2, round);
        List<Integer> order = new ArrayList<>();
        for (int k = 0; k < all.size(); k++) {
            order.add(tickets.get(stream.draw(tickets.size())));
        }
        return order;
    }

    private List<Integer> balanced(List<Integer> all, int round) {
        Map<Integer, List<Integer>> waiting = new TreeMap<>();
        Map<Integer, Integer> done = new HashMap<>();
        for (int r : all) {
            waiting.put(rows.get(r).label, new ArrayList<>());
        }
        List<Integer> order = new ArrayList<>();
        while (order.size() < all.size()) {
            for (int label : waiting.keySet()) {
                List<Integer> mine = waiting.get(label);
                if (mine.isEmpty()) {
                    all.stream().filter(r -> rows.get(r).label == label).forEach(mine::add);
                    new Stream(seed, 3, round, label, done.getOrDefault(label, 0)).mixing(mine);
                    done.merge(label, 1, Integer::sum);
                }
                order.add(mine.remove(0));
            }
        }
        return order.subList(0, all.size());
    }

    private List<Integer> buffered(List<Integer> all, int round) {
        Stream stream = new Stream(seed, 4, round);
        int held = Math.min(settings[2], all.size());
        List<Integer> buffer = new ArrayList<>(all.subList(0, held));
        List<Integer> coming = new ArrayList<>(all.subList(held, all.size()));
        List<Integer> order = new ArrayList<>();
        while (!buffer.isEmpty()) {
            int k = stream.draw(buffer.size());
            order.add(buffer.get(k));
            List<Integer> from = coming.isEmpty() ? buffer : coming;
            int place = coming.isEmpty() ? buffer.size() - 1 : 0;
            buffer.set(k, from.get(place));
            from.remove(place);
        }
        return order;
    }

    private List<List<Integer>> batches(List<Integer> order) {
        List<List<Integer>> batches = new ArrayList<>();
        for (int first = 0; first < order.size(); first += settings[0]) {
            List<Integer> part = order.subList(first, Math.min(order.size(), first + settings[0]));
            if (part.size() == settings[0] || settings[3] == 0) {
                batches.add(part);
            }
        }
        return batches;
    }

    int count() {
        if (settings[0] == 0) {
            throw new ArithmeticException();
        }
        return batches(order(0, 0)).size();
    }

    int batch(int way, int round, int k, int i) {
        return share(way, round, k, 1, 0, i);
    }

    int share(int way, int round, int k, int m, int w, int i) {
        if (!in(way, 0, 4) || !in(round, 0, 1000) || k < 0 || i < 0 || !in(m, 1, 8) || !in(w, 0, m - 1)) {
            return -1;
        }
        List<Integer> order = order(way, round);
        if (settings[0] == 0 || order == null) {
            return -16;
        }
        List<List<Integer>> batches = batches(order);
        if (k >= batches.size()) {
            return -3;
        }
        List<Integer> mine = new ArrayList<>();
        for (int p = 0; p < batches.get(k).size(); p++) {
            if (p % m == w) {
                mine.add(batches.get(k).get(p));
            }
        }
        return i < mine.size() ? mine.get(i) : -3;
    }

    int once(int way, int round) {
        if (!in(way, 0, 4) || !in(round, 0, 1000)) {
            return -1;
        }
        List<Integer> order = order(way, round);
        if (order == null) {
            return -16;
        }
        return order.stream().distinct().count() == rows.size() ? 1 : 0;
    }

    int resume(int way, int round, int place) {
        if (!in(way, 0, 4) || !in(round, 0, 1000) || !in(place, 0, rows.size())) {
            return -1;
        }
        hand[0] = way;
        hand[1] = round;
        hand[2] = place;
        return 1;
    }

    int next() {
        if (rows.isEmpty()) {
            return -3;
        }
        boolean ended = hand[2] >= rows.size();
        int round = ended ? (hand[1] + 1) % 1001 : hand[1];
        int place = ended ? 0 : hand[2];
        List<Integer> order = order(hand[0], round);
        if (order == null) {
            return -16;
        }
        hand[1] = round;
        hand[2] = place + 1;
        return order.get(place);
    }

    int at(int what) {
        return in(what, 0, 2) ? hand[what] : -1;
    }

    int act(int act, int row, int round, int n) {
        int[][] ends = {{Integer.MIN_VALUE, Integer.MAX_VALUE}, {Integer.MIN_VALUE, 40}, {0, 256}, {0, 100}, {0, 50}};
        if (!in(act, 0, 4) || !isRow(row) || !in(round, 0, 1000) || !in(n, ends[act][0], ends[act][1])) {
            return -1;
        }
        Row from = rows.get(row);
        int failure = failure(act, from, n);
        if (failure != 0) {
            return failure;
        }
        Stream stream = new Stream(seed, 5, row, round, act);
        out = act < 3 ? newPicture(act, from, n, stream) : newWords(act, from, n, stream);
        return out.items.size();
    }

    private static int failure(int act, Row from, int n) {
        int length = from.items.size();
        if (from.kind == 2) {
            return -11;
        }
        if ((from.kind == 1) != (act < 3)) {
            return -12;
        }
        if ((act == 1 && (n > from.high || n > from.wide)) || (act == 4 && length == 0 && n > 0)) {
            return -13;
        }
        if (act == 1 && n < 0) {
            return -15;
        }
        return (act == 2 && n == 0 && length > 0) || (act == 4 && length == 1 && n > 0) ? -16 : 0;
    }

    private static Row newPicture(int act, Row from, int n, Stream stream) {
        Row made = new Row();
        made.kind = 1;
        made.high = act == 1 ? n : from.high;
        made.wide = act == 1 ? n : from.wide;
        if (act == 2) {
            for (int b : from.items) {
                made.items.add(b ^ stream.draw(n));
            }
            return made;
        }
        if (act == 1) {
            int line = stream.draw(from.high - n + 1);
            int first = stream.draw(from.wide - n + 1);
            for (int y = line; y < line + n; y++) {
                made.items.addAll(from.items.subList(y * from.wide + first, y * from.wide + first + n));
            }
            return made;
        }
        made.items.addAll(from.items);
        int quarters = stream.draw(4);
        for (int q = 0; q < quarters; q++) {
            made = quarterToTheRight(made);
        }
        return made;
    }

    private static Row quarterToTheRight(Row from) {
        Row made = new Row();
        made.kind = 1;
        made.high = from.wide;
        made.wide = from.high;
        for (int x = 0; x < from.wide; x++) {
            for (int y = from.high - 1; y >= 0; y--) {
                made.items.add(from.items.get(y * from.wide + x));
            }
        }
        return made;
    }

    private static Row newWords(int act, Row from, int n, Stream stream) {
        Row made = new Row();
        for (int v : from.items) {
            if (act == 4 || stream.draw(100) >= n) {
                made.items.add(v);
            }
        }
        for (int time = 0; act == 4 && time < n; time++) {
            int k = stream.draw(made.items.size() - 1);
            Collections.swap(made.items, k, k + 1);
        }
        return made;
    }

    int out(int i) {
        if (out.kind == 2) {
            return -11;
        }
        if (in(i, -3, -1)) {
            return new int[] {out.wide, out.high, out.items.size()}[i + 3];
        }
        return in(i, 0, out.items.size() - 1) ? out.items.get(i) : -13;
    }

    int like(int row) {
        if (!isRow(row)) {
            return -1;
        }
        Row r = rows.get(row);
        boolean same = r.kind == out.kind && r.high == out.high && r.wide == out.wide && r.items.equals(out.items);
        return same ? 1 : 0;
    }
}
