import java.util.ArrayList;
import java.util.Arrays;
import java.util.HashMap;
import java.util.IdentityHashMap;
import java.util.List;
import java.util.Map;
import java.util.Set;
import java.util.TreeSet;
import java.util.zip.Adler32;
import java.util.zip.CRC32;

/**
 * The document read a second time, slowly and with other means (texts of 0 and 1, maps of words), so
 * that tests can hold the class against it.
 */
final class Model {
    static final int[] ORDER = {16, 17, 18, 0, 8, 7, 9, 6, 10, 5, 11, 4, 12, 3, 13, 2, 14, 1, 15};

    final StringBuilder bits = new StringBuilder();
    final List<int[]> blocks = new ArrayList<>();
    int[][] widths;
    static int halvings;
    int fault;
    int place;
    final List<Integer> data = new ArrayList<>();

    /** A FAULT that was met. */
    private static final class Stop extends RuntimeException {
        private static final long serialVersionUID = 1L;
        final int fault;
        final int place;

        Stop(int fault, int place) {
            this.fault = fault;
            this.place = place;
        }
    }

    // ---- terms

    static int e(int i) {
        return i < 8 || i == 28 ? 0 : (i - 4) / 4;
    }

    static int b(int i) {
        return i == 28 ? 258 : i == 0 ? 3 : b(i - 1) + (1 << e(i - 1));
    }

    static int f(int i) {
        return i < 2 ? 0 : (i - 2) / 2;
    }

    static int d(int i) {
        return i == 0 ? 1 : d(i - 1) + (1 << f(i - 1));
    }

    static String field(long v, int w) {
        StringBuilder s = new StringBuilder();
        for (int i = 0; i < w; i++) {
            s.append((v >> i & 1) == 1 ? '1' : '0');
        }
        return s.toString();
    }

    static String number(long v, int w) {
        return new StringBuilder(field(v, w)).reverse().toString();
    }

    static int[] fixedSymbols() {
        int[] w = new int[288];
        Arrays.fill(w, 0, 144, 8);
        Arrays.fill(w, 144, 256, 9);
        Arrays.fill(w, 256, 280, 7);
        Arrays.fill(w, 280, 288, 8);
        return w;
    }

    static int[] fixedDistances() {
        int[] w = new int[32];
        Arrays.fill(w, 5);
        return w;
    }

    /** Words as texts; null: the CODE is OVERFULL. */
    static String[] words(int[] widths) {
        String[] words = new String[widths.length];
        long next = 0;
        for (int w = 1; w <= 15; w++) {
            next *= 2;
            for (int s = 0; s < widths.length; s++) {
                if (widths[s] == w) {
                    if (next >= 1L << w) {
                        return null;
                    }
                    words[s] = number(next++, w);
                }
            }
        }
        return words;
    }

    static boolean isFull(int[] widths) {
        int greatest = 0;
        for (int w : widths) {
            greatest = Math.max(greatest, w);
        }
        String[] words = words(widths);
        long given = 0;
        for (String word : words == null ? new String[0] : words) {
            given += word == null ? 0 : 1L << (greatest - word.length());
        }
        return words != null && greatest > 0 && given == 1L << greatest;
    }

    // ---- to pack

    static List<int[]> steps(int[] data, Set<Integer> cuts) {
        List<int[]> steps = new ArrayList<>();
        for (int p = 0; p < data.length; ) {
            int end = data.length;
            for (int cut : cuts) {
                if (cut > p) {
                    end = Math.min(end, cut);
                }
            }
            int best = 0;
            int from = -1;
            for (int q = 0; q < p; q++) {
                int n = 0;
                while (n < 258 && p + n < end && data[q + n] == data[p + n]) {
                    n++;
                }
                if (n >= 3 && n >= best) {
                    best = n;
                    from = q;
                }
            }
            steps.add(from < 0 ? new int[] {p, 1, data[p]} : new int[] {p, best, p - from});
            p += from < 0 ? 1 : best;
        }
        return steps;
    }

    static int[] join(int[] numbers) {
        int[] widths = new int[numbers.length];
        List<long[]> left = new ArrayList<>();
        Map<Long, List<Integer>> members = new HashMap<>();
        for (int s = 0; s < numbers.length; s++) {
            if (numbers[s] > 0) {
                left.add(new long[] {numbers[s], s});
                members.put((long) s, List.of(s));
            }
        }
        if (left.size() == 1) {
            widths[(int) left.get(0)[1]] = 1;
        }
        for (long made = numbers.length; left.size() > 1; made++) {
            left.sort((x, y) -> x[0] != y[0] ? Long.compare(x[0], y[0]) : Long.compare(x[1], y[1]));
            long[] one = left.remove(0);
            long[] two = left.remove(0);
            List<Integer> both = new ArrayList<>(members.get(one[1]));
            both.addAll(members.get(two[1]));
            for (int s : both) {
                widths[s]++;
            }
            members.put(made, both);
            left.add(new long[] {one[0] + two[0], made});
        }
        return widths;
    }

    private static int index(int value, boolean isLength) {
        int found = 0;
        for (int i = 0; i < (isLength ? 29 : 30); i++) {
            if ((isLength ? b(i) : d(i)) <= value) {
                found = i;
            }
        }
        return found;
    }

    private static String told(List<int[]> steps, String[] symbols, String[] distances) {
        StringBuilder s = new StringBuilder();
        for (int[] step : steps) {
            if (step[1] == 1) {
                s.append(symbols[step[2]]);
            } else {
                int i = index(step[1], true);
                int k = index(step[2], false);
                s.append(symbols[257 + i]).append(field(step[1] - b(i), e(i)));
                s.append(distances[k]).append(field(step[2] - d(k), f(k)));
            }
        }
        return s.append(symbols[256]).toString();
    }

    private static int upTo(int[] widths, int least) {
        int n = widths.length;
        while (n > least && widths[n - 1] == 0) {
            n--;
        }
        return n;
    }

    /** What tells a row of widths: pairs of a WIDTH CODE's SYMBOL and its FIELD. */
    static List<int[]> tellRow(int[] row) {
        List<int[]> told = new ArrayList<>();
        for (int p = 0; p < row.length; ) {
            int n = 0;
            while (p + n < row.length && row[p + n] == row[p]) {
                n++;
            }
            if (row[p] == 0 && n >= 11) {
                n = Math.min(n, 138);
                told.add(new int[] {18, n - 11});
            } else if (row[p] == 0 && n >= 3) {
                told.add(new int[] {17, n - 3});
            } else if (row[p] != 0 && n >= 3 && p > 0 && row[p - 1] == row[p]) {
                n = Math.min(n, 6);
                told.add(new int[] {16, n - 3});
            } else {
                n = 1;
                told.add(new int[] {row[p], 0});
            }
            p += n;
        }
        return told;
    }

    private static String ownBlock(List<int[]> steps, int[][] widths) {
        int[] symbolNumbers = new int[286];
        int[] distanceNumbers = new int[30];
        symbolNumbers[256] = 1;
        symbolNumbers[0] = steps.isEmpty() ? 1 : 0;
        for (int[] step : steps) {
            symbolNumbers[step[1] == 1 ? step[2] : 257 + index(step[1], true)]++;
            if (step[1] > 1) {
                distanceNumbers[index(step[2], false)]++;
            }
        }
        widths[0] = join(symbolNumbers);
        widths[1] = join(distanceNumbers);
        int h = upTo(widths[0], 257);
        int k = upTo(widths[1], 1);
        int[] row = Arrays.copyOf(widths[0], h + k);
        System.arraycopy(widths[1], 0, row, h, k);
        List<int[]> told = tellRow(row);
        int[] numbers = new int[19];
        for (int[] t : told) {
            numbers[t[0]]++;
        }
        widths[2] = join(numbers);
        while (Arrays.stream(widths[2]).max().getAsInt() > 7) {
            halvings++;
            numbers = Arrays.stream(numbers).map(n -> n - n / 2).toArray();
            widths[2] = join(numbers);
        }
        int c = 19;
        while (c > 4 && widths[2][ORDER[c - 1]] == 0) {
            c--;
        }
        StringBuilder s = new StringBuilder(field(h - 257, 5) + field(k - 1, 5) + field(c - 4, 4));
        for (int i = 0; i < c; i++) {
            s.append(field(widths[2][ORDER[i]], 3));
        }
        String[] words = words(widths[2]);
        for (int[] t : told) {
            s.append(words[t[0]]).append(field(t[1], t[0] == 16 ? 2 : t[0] == 17 ? 3 : t[0] == 18 ? 7 : 0));
        }
        return s + told(steps, words(widths[0]), words(widths[1]));
    }

    static Model pack(int[] data, Set<Integer> cuts, int frame, int level) {
        Model m = new Model();
        int[] head = frame == 1 ? new int[] {120, 1}
                : frame == 2 ? new int[] {31, 139, 8, 0, 0, 0, 0, 0, 0, 255} : new int[0];
        for (int v : head) {
            m.bits.append(field(v, 8));
        }
        TreeSet<Integer> begins = new TreeSet<>(cuts);
        begins.removeIf(cut -> cut >= data.length);
        begins.add(0);
        List<int[]> steps = steps(data, cuts);
        for (int begin : begins) {
            Integer next = begins.higher(begin);
            int end = next == null ? data.length : next;
            List<int[]> own = new ArrayList<>(steps);
            own.removeIf(s -> s[0] < begin || s[0] >= end);
            m.packBlock(Arrays.copyOfRange(data, begin, end), begin, own, next == null, level);
        }
        m.fill();
        Adler32 adler = new Adler32();
        CRC32 crc = new CRC32();
        for (int v : data) {
            adler.update(v);
            crc.update(v);
        }
        if (frame == 1) {
            for (int i = 3; i >= 0; i--) {
                m.bits.append(field(adler.getValue() >> 8 * i & 255, 8));
            }
        } else if (frame == 2) {
            m.bits.append(field(crc.getValue(), 32)).append(field(data.length, 32));
        }
        return m;
    }

    private void fill() {
        while (bits.length() % 8 != 0) {
            bits.append('0');
        }
    }

    private void packBlock(int[] own, int begin, List<int[]> steps, boolean isLast, int level) {
        int first = bits.length();
        String best = null;
        int kind = -1;
        int[][] bestWidths = null;
        for (int k = 0; k < 3; k++) {
            int[][] w = new int[3][];
            StringBuilder s = new StringBuilder((isLast ? "1" : "0") + field(k, 2));
            if (k == 0) {
                while ((first + s.length()) % 8 != 0) {
                    s.append('0');
                }
                s.append(field(own.length, 16)).append(field(65535 - own.length, 16));
                for (int v : own) {
                    s.append(field(v, 8));
                }
            } else {
                s.append(k == 1 ? told(steps, words(fixedSymbols()), words(fixedDistances())) : ownBlock(steps, w));
            }
            if (level == k || level == 3 && (best == null || s.length() < best.length())) {
                best = s.toString();
                kind = k;
                bestWidths = k == 2 ? w : null;
            }
        }
        bits.append(best);
        blocks.add(new int[] {kind, begin, own.length, first, best.length()});
        widths = bestWidths == null ? widths : bestWidths;
    }

    byte[] bytes() {
        byte[] row = new byte[(bits.length() + 7) / 8];
        for (int i = 0; i < bits.length(); i++) {
            row[i / 8] |= (byte) ((bits.charAt(i) - '0') << i % 8);
        }
        return row;
    }

    // ---- to open

    private int at;

    static Model open(byte[] tape, int frame) {
        Model m = new Model();
        for (byte v : tape) {
            m.bits.append(field(v & 255, 8));
        }
        try {
            m.openAll(frame);
        } catch (Stop stop) {
            m.fault = stop.fault;
            m.place = stop.place;
        }
        return m;
    }

    private void ask(boolean isGood, int number) {
        if (!isGood) {
            throw new Stop(number, at);
        }
    }

    private char bit() {
        ask(at < bits.length(), 1);
        return bits.charAt(at++);
    }

    private int field(int w) {
        int v = 0;
        for (int i = 0; i < w; i++) {
            v += (bit() - '0') << i;
        }
        return v;
    }

    private final Map<int[], Map<String, Integer>> wordMaps = new IdentityHashMap<>();

    /** SYMBOLS by their words, and -1 for what words begin with. */
    private static Map<String, Integer> wordMap(int[] widths) {
        Map<String, Integer> map = new HashMap<>();
        String[] words = words(widths);
        for (int s = 0; s < words.length; s++) {
            if (words[s] != null) {
                map.put(words[s], s);
                for (int n = 0; n < words[s].length(); n++) {
                    map.put(words[s].substring(0, n), -1);
                }
            }
        }
        return map;
    }

    private int word(int[] widths) {
        Map<String, Integer> map = wordMaps.computeIfAbsent(widths, Model::wordMap);
        String read = "";
        while (true) {
            Integer s = map.get(read);
            ask(s != null, 9);
            if (s >= 0) {
                return s;
            }
            read += bit();
        }
    }

    private void openAll(int frame) {
        if (frame == 1) {
            int one = field(8);
            int two = field(8);
            ask(one % 16 == 8 && one / 16 < 8 && (256 * one + two) % 31 == 0 && two / 32 % 2 == 0, 12);
        } else if (frame == 2) {
            int[] four = {field(8), field(8), field(8), field(8)};
            ask(Arrays.equals(four, new int[] {31, 139, 8, 0}), 12);
            field(24);
            field(24);
        }
        boolean isLast = false;
        while (!isLast) {
            int first = at;
            int begin = data.size();
            isLast = field(1) == 1;
            int kind = field(2);
            openBlock(kind);
            blocks.add(new int[] {kind, begin, data.size() - begin, first, at - first});
        }
        at = (at + 7) / 8 * 8;
        Adler32 adler = new Adler32();
        CRC32 crc = new CRC32();
        data.forEach(adler::update);
        data.forEach(crc::update);
        if (frame == 1) {
            int got = field(8) << 24 | field(8) << 16 | field(8) << 8 | field(8);
            ask(got == (int) adler.getValue(), 13);
        } else if (frame == 2) {
            ask(field(32) == (int) crc.getValue(), 13);
            ask(field(32) == data.size(), 14);
        }
        if (at < bits.length()) {
            at += 8;
            ask(false, 15);
        }
    }

    private void openBlock(int kind) {
        ask(kind != 3, 2);
        if (kind == 0) {
            at = (at + 7) / 8 * 8;
            int n = field(16);
            ask(field(16) == 65535 - n, 3);
            for (int i = 0; i < n; i++) {
                put(field(8));
            }
        } else if (kind == 1) {
            openSteps(fixedSymbols(), fixedDistances());
        } else {
            int[][] own = openCodes();
            openSteps(own[0], own[1]);
            widths = own;
        }
    }

    private void put(int v) {
        ask(data.size() < 300, 11);
        data.add(v);
    }

    private void openSteps(int[] symbols, int[] distances) {
        for (int s = word(symbols); s != 256; s = word(symbols)) {
            if (s < 256) {
                put(s);
                continue;
            }
            ask(s < 286, 9);
            int length = b(s - 257) + field(e(s - 257));
            int k = word(distances);
            ask(k < 30, 9);
            int distance = d(k) + field(f(k));
            ask(distance <= data.size(), 10);
            for (int i = 0; i < length; i++) {
                put(data.get(data.size() - distance));
            }
        }
    }

    private int[][] openCodes() {
        int h = field(5);
        int k = field(5);
        int c = field(4);
        ask(h <= 29 && k <= 29, 4);
        int[] rowWidths = new int[19];
        for (int i = 0; i < c + 4; i++) {
            rowWidths[ORDER[i]] = field(3);
        }
        ask(isFull(rowWidths), 5);
        List<Integer> row = new ArrayList<>();
        while (row.size() < h + 257 + k + 1) {
            int s = word(rowWidths);
            ask(s != 16 || !row.isEmpty(), 6);
            int v = s < 16 ? s : s == 16 ? row.get(row.size() - 1) : 0;
            int n = s < 16 ? 1 : s == 16 ? 3 + field(2) : s == 17 ? 3 + field(3) : 11 + field(7);
            for (int i = 0; i < n; i++) {
                row.add(v);
            }
            ask(row.size() <= h + 257 + k + 1, 6);
        }
        int[] all = row.stream().mapToInt(v -> v).toArray();
        int[] symbols = Arrays.copyOf(Arrays.copyOf(all, h + 257), 286);
        int[] distances = Arrays.copyOf(Arrays.copyOfRange(all, h + 257, all.length), 30);
        ask(isFull(symbols) && symbols[256] > 0, 7);
        int[] there = Arrays.stream(distances).filter(w -> w > 0).toArray();
        ask(isFull(distances) || there.length == 0 || there.length == 1 && there[0] == 1, 8);
        return new int[][] {symbols, distances, rowWidths};
    }
}
