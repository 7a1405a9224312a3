import java.util.Arrays;

/**
 * Rows of bytes packed in blocks by a published form, and opened again by all rules. The words in
 * capitals, here and below, are those of the document.
 */
public final class DeflateBlocks {
    public static final int NONE = -1, OUTSIDE = -2, ROOM = -3;

    private static final int DATA_ROOM = 300, TAPE_ROOM = 400, CUT_ROOM = 2, MOST_CUT = 299;
    private static final int MOST_FRAME = 2, MOST_LEVEL = 3, BEST_LEVEL = 3;
    private static final int ADLER_FRAME = 1, CRC_FRAME = 2;
    private static final int PLAIN = 0, FIXED = 1, OWN = 2;
    private static final int FACTS = 5;
    // The shortest BLOCK has 10 bits, so 320 fill THE TAPE, and one more can only be begun.
    private static final int BLOCK_ROOM = TAPE_ROOM * 8 / 10 + 1;

    private static final int SYMBOLS = 286, DISTANCES = 30, ROW_SYMBOLS = 19;
    private static final int FIXED_SYMBOLS = 288, FIXED_DISTANCES = 32;
    private static final int END = 256, FIRST_LENGTH = 257, LAST_LENGTH_INDEX = 28;
    private static final int SHORTEST = 3, LONGEST = 258;
    private static final int MOST_WIDTH = 15, MOST_ROW_WIDTH = 7;
    private static final int AGAIN = 16, FEW_ZEROS = 17, MANY_ZEROS = 18;
    private static final int LEAST_AGAIN = 3, MOST_AGAIN = 6;
    private static final int LEAST_FEW = 3, LEAST_MANY = 11, MOST_MANY = 138;
    private static final int LEAST_SYMBOLS = 257, LEAST_DISTANCES = 1, LEAST_ROW_WIDTHS = 4;

    private static final int NO_BIT = 1, BAD_KIND = 2, BAD_PLAIN = 3, BAD_TOTALS = 4;
    private static final int BAD_ROW_CODE = 5, BAD_ROW = 6, BAD_SYMBOLS = 7, BAD_DISTANCES = 8;
    private static final int NO_WORD = 9, TOO_FAR = 10, TOO_MANY = 11, BAD_HEAD = 12;
    private static final int BAD_SUM = 13, BAD_NUMBER = 14, BYTES_BEHIND = 15;
    private static final int FAULT_BASE = -10;

    private static final int ADLER_MODULUS = 65521, CRC_MASK = 0xEDB88320;

    private static final int[] LENGTH_BASES = {
        3, 4, 5, 6, 7, 8, 9, 10, 11, 13, 15, 17, 19, 23, 27, 31, 35, 43, 51, 59, 67, 83, 99, 115,
        131, 163, 195, 227, 258
    };
    private static final int[] DISTANCE_BASES = {
        1, 2, 3, 4, 5, 7, 9, 13, 17, 25, 33, 49, 65, 97, 129, 193, 257, 385, 513, 769, 1025, 1537,
        2049, 3073, 4097, 6145, 8193, 12289, 16385, 24577
    };
    private static final int[] ROW_ORDER = {
        16, 17, 18, 0, 8, 7, 9, 6, 10, 5, 11, 4, 12, 3, 13, 2, 14, 1, 15
    };
    private static final int[] CRC_HEAD = {31, 139, 8, 0, 0, 0, 0, 0, 0, 255};

    private final Bytes dataBytes = new Bytes(DATA_ROOM);
    private final Bytes tapeBytes = new Bytes(TAPE_ROOM);
    private final Cuts cuts = new Cuts();
    private final Repeats repeats = new Repeats();
    private final Packer packer = new Packer();
    private final Opener opener = new Opener();
    private BlockLog latest = new BlockLog();
    // A call that is refused or has a FAULT must leave the latest log alone, so it writes here.
    private BlockLog spare = new BlockLog();
    private boolean repeatsAreFound = true;
    private int faultPlace = NONE;

    public DeflateBlocks() {
    }

    public int octet(int v) {
        if (!isByte(v)) {
            return OUTSIDE;
        }
        if (!dataBytes.add(v)) {
            return ROOM;
        }
        repeatsAreFound = false;
        return dataBytes.count;
    }

    public int empty() {
        int before = dataBytes.count;
        dataBytes.count = 0;
        cuts.count = 0;
        repeatsAreFound = false;
        return before;
    }

    public int cutAt(int place) {
        if (place < 1 || place > MOST_CUT) {
            return OUTSIDE;
        }
        if (!cuts.add(place)) {
            return ROOM;
        }
        repeatsAreFound = false;
        return cuts.count;
    }

    public int at(int i) {
        return dataBytes.get(i);
    }

    public int pack(int frame, int level) {
        if (frame < 0 || frame > MOST_FRAME || level < 0 || level > MOST_LEVEL) {
            return OUTSIDE;
        }
        findRepeats();
        Writer out = packer.out;
        out.backTo(0);
        writeHead(out, frame);
        packer.packBlocks(dataBytes, cuts, repeats, level, spare);
        out.toByte();
        writeTail(out, frame);
        if (!out.fits()) {
            return ROOM;
        }
        tapeBytes.copyFrom(out.row, out.bits / 8);
        takeSpareLog();
        return tapeBytes.count;
    }

    public int open(int frame) {
        if (frame < 0 || frame > MOST_FRAME) {
            return OUTSIDE;
        }
        int fault = opener.openTape(tapeBytes, frame, spare);
        if (fault != 0) {
            faultPlace = opener.in.bits;
            return FAULT_BASE - fault;
        }
        faultPlace = NONE;
        dataBytes.copyFrom(opener.opened.row, opener.opened.count);
        cuts.count = 0;
        repeatsAreFound = false;
        takeSpareLog();
        return dataBytes.count;
    }

    public int place() {
        return faultPlace;
    }

    public int block(int i, int what) {
        if (what < 0 || what >= FACTS) {
            return OUTSIDE;
        }
        return latest.fact(i, what);
    }

    public int width(int which, int s) {
        int[] row = latest.widthsOf(which);
        if (row == null || s < 0 || s >= row.length) {
            return OUTSIDE;
        }
        return latest.hasOwn ? row[s] : NONE;
    }

    public int steps() {
        findRepeats();
        return repeats.count;
    }

    public int step(int i, int what) {
        if (what < 0 || what > 2) {
            return OUTSIDE;
        }
        findRepeats();
        if (i < 0 || i >= repeats.count || i >= DATA_ROOM) {
            return NONE;
        }
        switch (what) {
            case 0:
                return repeats.places[i];
            case 1:
                return repeats.lengths[i];
            default:
                return repeats.values[i];
        }
    }

    public int sum(int kind) {
        switch (kind) {
            case 0:
                return dataBytes.adler();
            case 1:
                return dataBytes.crc();
            default:
                return 0;
        }
    }

    public int tape(int i) {
        return tapeBytes.get(i);
    }

    public int flip(int i, int k) {
        if (k < 0 || k > 7 || !tapeBytes.has(i)) {
            return OUTSIDE;
        }
        tapeBytes.row[i] ^= 1 << k;
        return tapeBytes.row[i];
    }

    public int keep(int n) {
        if (n < 0 || n > tapeBytes.count) {
            return OUTSIDE;
        }
        tapeBytes.count = n;
        return n;
    }

    public int more(int v) {
        if (!isByte(v)) {
            return OUTSIDE;
        }
        return tapeBytes.add(v) ? tapeBytes.count : ROOM;
    }

    private static boolean isByte(int v) {
        return v >= 0 && v <= 255;
    }

    private void findRepeats() {
        if (!repeatsAreFound) {
            repeats.find(dataBytes, cuts);
            repeatsAreFound = true;
        }
    }

    private void takeSpareLog() {
        BlockLog old = latest;
        latest = spare;
        spare = old;
    }

    private static void writeHead(Writer out, int frame) {
        if (frame == ADLER_FRAME) {
            out.field(120, 8);
            out.field(1, 8);
        } else if (frame == CRC_FRAME) {
            for (int b : CRC_HEAD) {
                out.field(b, 8);
            }
        }
    }

    private void writeTail(Writer out, int frame) {
        if (frame == ADLER_FRAME) {
            out.highestFirst(dataBytes.adler());
        } else if (frame == CRC_FRAME) {
            out.field(dataBytes.crc(), 32);
            out.field(dataBytes.count, 32);
        }
    }

    private static int lengthBits(int i) {
        return i < 8 || i >= LAST_LENGTH_INDEX ? 0 : (i - 4) / 4;
    }

    private static int distanceBits(int i) {
        return i < 2 ? 0 : (i - 2) / 2;
    }

    /** The last base that is not above the value; the first base is not above any that is asked. */
    private static int indexOfBase(int[] bases, int value) {
        for (int i = bases.length - 1; i > 0; i--) {
            if (bases[i] <= value) {
                return i;
            }
        }
        return 0;
    }

    private static int rowFieldBits(int s) {
        switch (s) {
            case AGAIN:
                return 2;
            case FEW_ZEROS:
                return 3;
            case MANY_ZEROS:
                return 7;
            default:
                return 0;
        }
    }

    /** A row of bytes with a bound. */
    private static final class Bytes {
        private final int[] row;
        private int count;

        Bytes(int room) {
            row = new int[Math.max(0, room)];
        }

        boolean has(int i) {
            return i >= 0 && i < count && i < row.length;
        }

        int get(int i) {
            return has(i) ? row[i] : NONE;
        }

        boolean add(int v) {
            if (count < 0 || count >= row.length) {
                return false;
            }
            row[count] = v;
            count++;
            return true;
        }

        void copyFrom(int[] from, int n) {
            int taken = Math.max(0, Math.min(n, Math.min(from.length, row.length)));
            System.arraycopy(from, 0, row, 0, taken);
            count = taken;
        }

        int adler() {
            int a = 1;
            int b = 0;
            for (int i = 0; i < count && i < row.length; i++) {
                a = (a + row[i]) % ADLER_MODULUS;
                b = (b + a) % ADLER_MODULUS;
            }
            return b << 16 | a;
        }

        int crc() {
            int c = -1;
            for (int i = 0; i < count && i < row.length; i++) {
                c ^= row[i];
                for (int k = 0; k < 8; k++) {
                    c = (c & 1) == 1 ? c >>> 1 ^ CRC_MASK : c >>> 1;
                }
            }
            return ~c;
        }
    }

    /** The CUTS, in the order in which they came. */
    private static final class Cuts {
        private final int[] row = new int[CUT_ROOM];
        private int count;

        boolean add(int cut) {
            for (int i = 0; i < count && i < row.length; i++) {
                if (row[i] == cut) {
                    return true;
                }
            }
            if (count < 0 || count >= row.length) {
                return false;
            }
            row[count] = cut;
            count++;
            return true;
        }

        int endOfBlock(int p, int dataCount) {
            int end = dataCount;
            for (int i = 0; i < count && i < row.length; i++) {
                if (row[i] > p && row[i] < end) {
                    end = row[i];
                }
            }
            return end;
        }
    }

    /** DATA as REPEATS and bytes alone; a byte has length 1 and itself as value. */
    private static final class Repeats {
        private final int[] places = new int[DATA_ROOM];
        private final int[] lengths = new int[DATA_ROOM];
        private final int[] values = new int[DATA_ROOM];
        private int count;
        private int foundLength;
        private int foundDistance;

        void find(Bytes data, Cuts cuts) {
            count = 0;
            int p = 0;
            int end = 0;
            for (int i = 0; i < DATA_ROOM && data.has(p); i++) {
                if (p >= end) {
                    end = cuts.endOfBlock(p, data.count);
                }
                search(data, p, Math.min(LONGEST, end - p));
                places[i] = p;
                lengths[i] = foundLength;
                values[i] = foundLength == 1 ? data.get(p) : foundDistance;
                count = i + 1;
                p += foundLength;
            }
        }

        /** Goes back from the latest place and takes only longer runs: of equals the latest stays. */
        private void search(Bytes data, int p, int most) {
            foundLength = 1;
            foundDistance = 0;
            int longest = SHORTEST - 1;
            for (int from = p - 1; from >= 0 && longest < most; from--) {
                int run = runOf(data, from, p, most);
                if (run > longest) {
                    longest = run;
                    foundLength = run;
                    foundDistance = p - from;
                }
            }
        }

        private static int runOf(Bytes data, int from, int p, int most) {
            int[] row = data.row;
            int run = 0;
            // from is below p, so that a look at p's side is enough for both.
            while (run < most && p + run < row.length && row[from + run] == row[p + run]) {
                run++;
            }
            return run;
        }

        int indexFrom(int first, int place) {
            for (int i = Math.max(0, first); i < count && i < places.length; i++) {
                if (places[i] >= place) {
                    return i;
                }
            }
            return count;
        }
    }

    /** A CODE: its words worked out from the widths of its SYMBOLS. */
    private static final class Code {
        private final int[] widths;
        private final int[] words;
        private final int[] symbolsByWord;
        private final int[] counts = new int[MOST_WIDTH + 1];
        private final int[] firstWords = new int[MOST_WIDTH + 1];
        private final int[] starts = new int[MOST_WIDTH + 1];
        private final int[] given = new int[MOST_WIDTH + 1];
        private int wordCount;
        private int greatest;
        // An OVERFULL CODE is never full: what is beyond a width doubles with each further one.
        private boolean full;

        Code(int size) {
            int room = Math.max(0, size);
            widths = new int[room];
            words = new int[room];
            symbolsByWord = new int[room];
        }

        static Code fixedSymbols() {
            Code code = new Code(FIXED_SYMBOLS);
            for (int s = 0; s < code.widths.length; s++) {
                code.widths[s] = s < 144 ? 8 : s < 256 ? 9 : s < 280 ? 7 : 8;
            }
            code.settle();
            return code;
        }

        static Code fixedDistances() {
            Code code = new Code(FIXED_DISTANCES);
            Arrays.fill(code.widths, 5);
            code.settle();
            return code;
        }

        void settle() {
            countWidths();
            wordCount = 0;
            greatest = 0;
            full = false;
            int next = 0;
            for (int w = 1; w <= MOST_WIDTH; w++) {
                next = 2 * next;
                firstWords[w] = next;
                starts[w] = wordCount;
                next += counts[w];
                wordCount += counts[w];
                if (counts[w] > 0) {
                    greatest = w;
                    full = next == 1 << w;
                }
            }
            giveWords();
        }

        private void countWidths() {
            Arrays.fill(counts, 0);
            for (int w : widths) {
                if (w > 0 && w <= MOST_WIDTH) {
                    counts[w]++;
                }
            }
        }

        private void giveWords() {
            Arrays.fill(given, 0);
            for (int s = 0; s < widths.length; s++) {
                int w = widths[s];
                if (w > 0 && w <= MOST_WIDTH) {
                    int i = starts[w] + given[w];
                    words[s] = firstWords[w] + given[w];
                    if (i >= 0 && i < symbolsByWord.length) {
                        symbolsByWord[i] = s;
                    }
                    given[w]++;
                }
            }
        }

        int symbolOf(int word, int w) {
            if (w < 1 || w > MOST_WIDTH) {
                return NONE;
            }
            int behind = word - firstWords[w];
            int i = starts[w] + behind;
            if (behind < 0 || behind >= counts[w] || i < 0 || i >= symbolsByWord.length) {
                return NONE;
            }
            return symbolsByWord[i];
        }

        /** DISTANCES may have no word, or one alone of width 1. */
        boolean isFitForDistances() {
            return full || wordCount == 0 || wordCount == 1 && greatest == 1;
        }
    }

    /** Widths by joining the two least again and again. */
    private static final class Joining {
        private final int[] leaves = new int[SYMBOLS];
        private final int[] numbers = new int[2 * SYMBOLS];
        private final int[] joinedTo = new int[2 * SYMBOLS];
        private final int[] depths = new int[2 * SYMBOLS];
        private int leafCount;
        private int nodeCount;
        private int nextLeaf;
        private int nextJoined;

        void join(int[] counts, int[] widths) {
            Arrays.fill(widths, 0);
            sortLeaves(counts);
            joinAll();
            findDepths();
            for (int i = 0; i < leafCount && i < leaves.length; i++) {
                int s = leaves[i];
                if (s >= 0 && s < widths.length) {
                    widths[s] = leafCount == 1 ? 1 : depths[i];
                }
            }
        }

        /** Leaves by their numbers, equals by the order of SYMBOLS. */
        private void sortLeaves(int[] counts) {
            leafCount = 0;
            for (int s = 0; s < counts.length && s < leaves.length; s++) {
                if (counts[s] > 0) {
                    int i = leafCount;
                    while (i > 0 && numbers[i - 1] > counts[s]) {
                        leaves[i] = leaves[i - 1];
                        numbers[i] = numbers[i - 1];
                        i--;
                    }
                    leaves[i] = s;
                    numbers[i] = counts[s];
                    leafCount++;
                }
            }
        }

        private void joinAll() {
            nodeCount = leafCount;
            nextLeaf = 0;
            nextJoined = leafCount;
            for (int joins = 1; joins < leafCount && nodeCount < numbers.length; joins++) {
                int a = takeLeast();
                int b = takeLeast();
                numbers[nodeCount] = numbers[a] + numbers[b];
                joinedTo[a] = nodeCount;
                joinedTo[b] = nodeCount;
                nodeCount++;
            }
        }

        /**
         * Joined ones never have a lesser number than those made before them, so the least one is
         * the first of the leaves or the first of the joined ones that are left.
         */
        private int takeLeast() {
            boolean leafIsLeft = nextLeaf < leafCount;
            boolean joinedIsLeft = nextJoined < nodeCount;
            if (leafIsLeft && (!joinedIsLeft || numbers[nextLeaf] <= numbers[nextJoined])) {
                nextLeaf++;
                return nextLeaf - 1;
            }
            if (joinedIsLeft) {
                nextJoined++;
                return nextJoined - 1;
            }
            return 0;
        }

        /** What a node was joined to stands behind it, so going once from the end back is enough. */
        private void findDepths() {
            int root = Math.min(nodeCount, depths.length) - 1;
            for (int node = root; node >= 0; node--) {
                int to = joinedTo[node];
                boolean isJoined = node < root && to > node && to <= root;
                depths[node] = isJoined ? depths[to] + 1 : 0;
            }
        }
    }

    /** The OWN CODES of a BLOCK that is packed, and how its row of widths is told. */
    private static final class OwnCodes {
        private final Code symbols = new Code(SYMBOLS);
        private final Code distances = new Code(DISTANCES);
        private final Code rowCode = new Code(ROW_SYMBOLS);
        private final Joining joining = new Joining();
        private final int[] symbolCounts = new int[SYMBOLS];
        private final int[] distanceCounts = new int[DISTANCES];
        private final int[] rowCounts = new int[ROW_SYMBOLS];
        private final int[] row = new int[SYMBOLS + DISTANCES];
        private final int[] told = new int[SYMBOLS + DISTANCES];
        private final int[] toldFields = new int[SYMBOLS + DISTANCES];
        private int symbolTotal;
        private int distanceTotal;
        private int rowTotal;
        private int toldCount;

        void workOut(Repeats repeats, int firstStep, int endStep) {
            countSteps(repeats, firstStep, endStep);
            joining.join(symbolCounts, symbols.widths);
            joining.join(distanceCounts, distances.widths);
            symbols.settle();
            distances.settle();
            fillRow();
            tellRow();
            workOutRowCode();
        }

        private void countSteps(Repeats repeats, int firstStep, int endStep) {
            Arrays.fill(symbolCounts, 0);
            Arrays.fill(distanceCounts, 0);
            symbolCounts[END] = 1;
            if (firstStep >= endStep) {
                symbolCounts[0] = 1;
            }
            for (int i = Math.max(0, firstStep); i < endStep && i < DATA_ROOM; i++) {
                int value = repeats.values[i];
                if (repeats.lengths[i] > 1) {
                    int length = indexOfBase(LENGTH_BASES, repeats.lengths[i]);
                    symbolCounts[FIRST_LENGTH + length]++;
                    distanceCounts[indexOfBase(DISTANCE_BASES, value)]++;
                } else if (isByte(value)) {
                    symbolCounts[value]++;
                }
            }
        }

        private void fillRow() {
            symbolTotal = upToLast(symbols.widths, LEAST_SYMBOLS);
            distanceTotal = upToLast(distances.widths, LEAST_DISTANCES);
            System.arraycopy(symbols.widths, 0, row, 0, symbolTotal);
            System.arraycopy(distances.widths, 0, row, symbolTotal, distanceTotal);
        }

        private static int upToLast(int[] widths, int least) {
            int total = widths.length;
            while (total > least && widths[total - 1] == 0) {
                total--;
            }
            return total;
        }

        private void tellRow() {
            Arrays.fill(rowCounts, 0);
            toldCount = 0;
            int end = Math.min(symbolTotal + distanceTotal, row.length);
            int p = 0;
            for (int i = 0; i < row.length && p < end; i++) {
                p += tellFrom(p, end);
            }
        }

        /** Tells at least the width at p: how many it told. */
        private int tellFrom(int p, int end) {
            int w = row[p];
            int run = runFrom(p, end);
            if (w == 0 && run >= LEAST_MANY) {
                int n = Math.min(run, MOST_MANY);
                tell(MANY_ZEROS, n - LEAST_MANY);
                return n;
            }
            if (w == 0 && run >= LEAST_FEW) {
                tell(FEW_ZEROS, run - LEAST_FEW);
                return run;
            }
            if (w != 0 && run >= LEAST_AGAIN && p > 0 && row[p - 1] == w) {
                int n = Math.min(run, MOST_AGAIN);
                tell(AGAIN, n - LEAST_AGAIN);
                return n;
            }
            tell(w, 0);
            return 1;
        }

        private int runFrom(int p, int end) {
            int run = 1;
            while (p + run < end && row[p + run] == row[p]) {
                run++;
            }
            return run;
        }

        private void tell(int s, int field) {
            if (toldCount < told.length && s >= 0 && s < rowCounts.length) {
                told[toldCount] = s;
                toldFields[toldCount] = field;
                toldCount++;
                rowCounts[s]++;
            }
        }

        private void workOutRowCode() {
            joining.join(rowCounts, rowCode.widths);
            rowCode.settle();
            // A number is below 512, so after ten halvings all are 1 and no width is above 5.
            for (int i = 0; i < 10 && rowCode.greatest > MOST_ROW_WIDTH; i++) {
                halve(rowCounts);
                joining.join(rowCounts, rowCode.widths);
                rowCode.settle();
            }
            rowTotal = ROW_ORDER.length;
            while (rowTotal > LEAST_ROW_WIDTHS && rowCode.widths[ROW_ORDER[rowTotal - 1]] == 0) {
                rowTotal--;
            }
        }

        private static void halve(int[] counts) {
            for (int s = 0; s < counts.length; s++) {
                counts[s] = (counts[s] + 1) / 2;
            }
        }

        void write(Writer out) {
            out.field(symbolTotal - LEAST_SYMBOLS, 5);
            out.field(distanceTotal - LEAST_DISTANCES, 5);
            out.field(rowTotal - LEAST_ROW_WIDTHS, 4);
            for (int i = 0; i < rowTotal && i < ROW_ORDER.length; i++) {
                out.field(rowCode.widths[ROW_ORDER[i]], 3);
            }
            for (int i = 0; i < toldCount && i < told.length; i++) {
                out.word(rowCode, told[i]);
                out.field(toldFields[i], rowFieldBits(told[i]));
            }
        }
    }

    /** What is told of BLOCKS, and the widths of the last one of KIND 2. */
    private static final class BlockLog {
        // Three BLOCKS are the most that pack() makes; a tape of many is rare, so the row grows.
        private int[] facts = new int[(CUT_ROOM + 1) * FACTS];
        private final int[] symbolWidths = new int[SYMBOLS];
        private final int[] distanceWidths = new int[DISTANCES];
        private final int[] rowWidths = new int[ROW_SYMBOLS];
        private int count;
        private boolean hasOwn;

        void clear() {
            count = 0;
            hasOwn = false;
        }

        void add(int kind, int begin, int bytes, int firstBit, int bits) {
            int i = count * FACTS;
            if (i + FACTS > facts.length) {
                facts = Arrays.copyOf(facts, Math.min(2 * facts.length, BLOCK_ROOM * FACTS));
            }
            if (i >= 0 && i + FACTS <= facts.length) {
                facts[i] = kind;
                facts[i + 1] = begin;
                facts[i + 2] = bytes;
                facts[i + 3] = firstBit;
                facts[i + 4] = bits;
                count++;
            }
        }

        void takeWidths(Code symbols, Code distances, Code rowCode) {
            copyWidths(symbols.widths, symbolWidths);
            copyWidths(distances.widths, distanceWidths);
            copyWidths(rowCode.widths, rowWidths);
            hasOwn = true;
        }

        private static void copyWidths(int[] from, int[] to) {
            System.arraycopy(from, 0, to, 0, Math.min(from.length, to.length));
        }

        int fact(int i, int what) {
            boolean isThere = i >= 0 && i < count && i < facts.length / FACTS;
            return isThere && what >= 0 && what < FACTS ? facts[i * FACTS + what] : NONE;
        }

        int[] widthsOf(int which) {
            switch (which) {
                case 0:
                    return symbolWidths;
                case 1:
                    return distanceWidths;
                case 2:
                    return rowWidths;
                default:
                    return null;
            }
        }
    }

    /** Bits in the order of THE TAPE; those beyond its room are counted, but kept nowhere. */
    private static final class Writer {
        private final int[] row = new int[TAPE_ROOM];
        private int bits;

        void backTo(int bit) {
            bits = Math.max(0, bit);
        }

        boolean fits() {
            return bits <= TAPE_ROOM * 8;
        }

        /** Sets and clears: bits of what was written before backTo() may stand there. */
        private void bit(int b) {
            int i = bits >> 3;
            int k = bits & 7;
            if (i >= 0 && i < row.length) {
                row[i] = row[i] & ~(1 << k) | (b & 1) << k;
            }
            bits++;
        }

        void field(int value, int w) {
            for (int i = 0; i < w; i++) {
                bit(value >>> i);
            }
        }

        void highestFirst(int value) {
            for (int shift = 24; shift >= 0; shift -= 8) {
                field(value >>> shift, 8);
            }
        }

        void word(Code code, int s) {
            if (s >= 0 && s < code.widths.length) {
                for (int i = code.widths[s] - 1; i >= 0; i--) {
                    bit(code.words[s] >>> i);
                }
            }
        }

        void toByte() {
            field(0, -bits & 7);
        }
    }

    /** Bits of THE TAPE up to the first FAULT; behind it nothing is read and no other is told. */
    private static final class Reader {
        private int[] row = new int[0];
        private int count;
        private int bits;
        private int fault;

        void start(Bytes tape) {
            row = tape.row;
            count = tape.count;
            bits = 0;
            fault = 0;
        }

        void fail(int number) {
            if (fault == 0) {
                fault = number;
            }
        }

        int bit() {
            int i = bits >> 3;
            if (fault != 0) {
                return 0;
            }
            if (i < 0 || i >= count || i >= row.length) {
                fault = NO_BIT;
                return 0;
            }
            int b = row[i] >> (bits & 7) & 1;
            bits++;
            return b;
        }

        int field(int w) {
            int value = 0;
            for (int i = 0; i < w; i++) {
                value |= bit() << i;
            }
            return value;
        }

        int highestFirst() {
            int value = 0;
            for (int i = 0; i < 4; i++) {
                value = value << 8 | field(8);
            }
            return value;
        }

        /** The SYMBOL of a word; NONE: there was a FAULT. */
        int symbol(Code code) {
            int word = 0;
            for (int w = 1; w <= code.greatest && fault == 0; w++) {
                word = 2 * word + bit();
                int s = code.symbolOf(word, w);
                if (fault == 0 && s != NONE) {
                    return s;
                }
            }
            fail(NO_WORD);
            return NONE;
        }

        void toByte() {
            if (fault == 0) {
                bits += -bits & 7;
            }
        }

        boolean hasBit() {
            return bits >> 3 < count;
        }
    }

    /** Writes DATA's BLOCKS. */
    private static final class Packer {
        private final Writer out = new Writer();
        private final Code fixedSymbols = Code.fixedSymbols();
        private final Code fixedDistances = Code.fixedDistances();
        private final OwnCodes own = new OwnCodes();
        private int begin;
        private int end;
        private int firstStep;
        private int endStep;

        void packBlocks(Bytes data, Cuts cuts, Repeats repeats, int level, BlockLog log) {
            log.clear();
            end = 0;
            endStep = 0;
            for (int i = 0; i <= CUT_ROOM && (i == 0 || end < data.count); i++) {
                begin = end;
                end = cuts.endOfBlock(begin, data.count);
                firstStep = endStep;
                endStep = repeats.indexFrom(firstStep, end);
                if (level >= OWN) {
                    own.workOut(repeats, firstStep, endStep);
                }
                int kind = level == BEST_LEVEL ? bestKind(data, repeats) : level;
                int firstBit = out.bits;
                writeBlock(kind, data, repeats);
                log.add(kind, begin, end - begin, firstBit, out.bits - firstBit);
                if (kind == OWN) {
                    log.takeWidths(own.symbols, own.distances, own.rowCode);
                }
            }
        }

        /** Each KIND is written where the BLOCK stands, and taken back: that tells its bits. */
        private int bestKind(Bytes data, Repeats repeats) {
            int firstBit = out.bits;
            int best = PLAIN;
            int fewest = 0;
            for (int kind = PLAIN; kind <= OWN; kind++) {
                writeBlock(kind, data, repeats);
                int bits = out.bits - firstBit;
                out.backTo(firstBit);
                if (kind == PLAIN || bits < fewest) {
                    best = kind;
                    fewest = bits;
                }
            }
            return best;
        }

        private void writeBlock(int kind, Bytes data, Repeats repeats) {
            out.field(end < data.count ? 0 : 1, 1);
            out.field(kind, 2);
            if (kind == PLAIN) {
                writePlain(data);
            } else if (kind == FIXED) {
                writeSteps(repeats, fixedSymbols, fixedDistances);
            } else {
                own.write(out);
                writeSteps(repeats, own.symbols, own.distances);
            }
        }

        private void writePlain(Bytes data) {
            int n = end - begin;
            out.toByte();
            out.field(n, 16);
            out.field(65535 - n, 16);
            for (int i = begin; i < end; i++) {
                out.field(data.get(i), 8);
            }
        }

        private void writeSteps(Repeats repeats, Code symbols, Code distances) {
            for (int i = Math.max(0, firstStep); i < endStep && i < DATA_ROOM; i++) {
                if (repeats.lengths[i] > 1) {
                    writeRepeat(symbols, distances, repeats.lengths[i], repeats.values[i]);
                } else {
                    out.word(symbols, repeats.values[i]);
                }
            }
            out.word(symbols, END);
        }

        private void writeRepeat(Code symbols, Code distances, int length, int distance) {
            int i = indexOfBase(LENGTH_BASES, length);
            out.word(symbols, FIRST_LENGTH + i);
            out.field(length - LENGTH_BASES[i], lengthBits(i));
            int k = indexOfBase(DISTANCE_BASES, distance);
            out.word(distances, k);
            out.field(distance - DISTANCE_BASES[k], distanceBits(k));
        }
    }

    /** Reads THE TAPE by all rules. */
    private static final class Opener {
        private final Reader in = new Reader();
        private final Bytes opened = new Bytes(DATA_ROOM);
        private final Code fixedSymbols = Code.fixedSymbols();
        private final Code fixedDistances = Code.fixedDistances();
        private final Code ownSymbols = new Code(SYMBOLS);
        private final Code ownDistances = new Code(DISTANCES);
        private final Code rowCode = new Code(ROW_SYMBOLS);
        private final int[] row = new int[SYMBOLS + DISTANCES];

        /** The FAULT, or 0. */
        int openTape(Bytes tape, int frame, BlockLog log) {
            in.start(tape);
            opened.count = 0;
            log.clear();
            readHead(frame);
            boolean isLast = false;
            for (int i = 0; i < BLOCK_ROOM && !isLast && in.fault == 0; i++) {
                isLast = readBlock(log);
            }
            in.toByte();
            readTail(frame);
            if (in.fault == 0 && in.hasBit()) {
                in.field(8);
                in.fail(BYTES_BEHIND);
            }
            return in.fault;
        }

        private void readHead(int frame) {
            if (frame == ADLER_FRAME) {
                int first = in.field(8);
                int second = in.field(8);
                boolean isGood = (first & 15) == 8 && first >> 4 <= 7
                        && (first * 256 + second) % 31 == 0 && (second & 32) == 0;
                if (!isGood) {
                    in.fail(BAD_HEAD);
                }
            } else if (frame == CRC_FRAME) {
                boolean isGood = true;
                for (int i = 0; i < 4; i++) {
                    isGood = in.field(8) == CRC_HEAD[i] && isGood;
                }
                if (!isGood) {
                    in.fail(BAD_HEAD);
                }
                for (int i = 0; i < 6; i++) {
                    in.field(8);
                }
            }
        }

        private void readTail(int frame) {
            if (frame == ADLER_FRAME && in.highestFirst() != opened.adler()) {
                in.fail(BAD_SUM);
            } else if (frame == CRC_FRAME) {
                if (in.field(32) != opened.crc()) {
                    in.fail(BAD_SUM);
                }
                if (in.field(32) != opened.count) {
                    in.fail(BAD_NUMBER);
                }
            }
        }

        /** Whether it is the last one. */
        private boolean readBlock(BlockLog log) {
            int firstBit = in.bits;
            int begin = opened.count;
            boolean isLast = in.field(1) == 1;
            int kind = in.field(2);
            switch (kind) {
                case PLAIN:
                    readPlain();
                    break;
                case FIXED:
                    readSteps(fixedSymbols, fixedDistances);
                    break;
                case OWN:
                    readOwnCodes();
                    readSteps(ownSymbols, ownDistances);
                    log.takeWidths(ownSymbols, ownDistances, rowCode);
                    break;
                default:
                    in.fail(BAD_KIND);
                    break;
            }
            log.add(kind, begin, opened.count - begin, firstBit, in.bits - firstBit);
            return isLast;
        }

        private void readPlain() {
            in.toByte();
            int n = in.field(16);
            if (in.field(16) != 65535 - n) {
                in.fail(BAD_PLAIN);
            }
            for (int i = 0; i < n && in.fault == 0; i++) {
                put(in.field(8));
            }
        }

        private void put(int v) {
            if (in.fault == 0 && !opened.add(v)) {
                in.fail(TOO_MANY);
            }
        }

        /** Each word but the last puts a byte at least, so one more than DATA's room are enough. */
        private void readSteps(Code symbols, Code distances) {
            for (int i = 0; i <= DATA_ROOM && in.fault == 0; i++) {
                int s = in.symbol(symbols);
                if (s == END) {
                    return;
                }
                if (s >= 0 && s < END) {
                    put(s);
                } else if (s >= FIRST_LENGTH) {
                    readRepeat(s - FIRST_LENGTH, distances);
                }
            }
        }

        private void readRepeat(int i, Code distances) {
            if (i < 0 || i >= LENGTH_BASES.length) {
                in.fail(NO_WORD);
                return;
            }
            int length = LENGTH_BASES[i] + in.field(lengthBits(i));
            int k = in.symbol(distances);
            if (k < 0 || k >= DISTANCE_BASES.length) {
                in.fail(NO_WORD);
                return;
            }
            int distance = DISTANCE_BASES[k] + in.field(distanceBits(k));
            if (distance > opened.count) {
                in.fail(TOO_FAR);
            }
            for (int n = 0; n < length && in.fault == 0; n++) {
                put(opened.get(opened.count - distance));
            }
        }

        private void readOwnCodes() {
            int symbolTotal = in.field(5) + LEAST_SYMBOLS;
            int distanceTotal = in.field(5) + LEAST_DISTANCES;
            int rowTotal = in.field(4) + LEAST_ROW_WIDTHS;
            if (symbolTotal > SYMBOLS || distanceTotal > DISTANCES) {
                in.fail(BAD_TOTALS);
            }
            readRowCode(rowTotal);
            readRow(symbolTotal + distanceTotal);
            if (in.fault != 0) {
                return;
            }
            takeRow(0, symbolTotal, ownSymbols);
            takeRow(symbolTotal, distanceTotal, ownDistances);
            if (!ownSymbols.full || ownSymbols.widths[END] == 0) {
                in.fail(BAD_SYMBOLS);
            }
            if (!ownDistances.isFitForDistances()) {
                in.fail(BAD_DISTANCES);
            }
        }

        private void readRowCode(int rowTotal) {
            Arrays.fill(rowCode.widths, 0);
            for (int i = 0; i < rowTotal && i < ROW_ORDER.length; i++) {
                rowCode.widths[ROW_ORDER[i]] = in.field(3);
            }
            rowCode.settle();
            if (!rowCode.full) {
                in.fail(BAD_ROW_CODE);
            }
        }

        private void readRow(int total) {
            int filled = 0;
            for (int i = 0; i < total && filled < total && in.fault == 0; i++) {
                filled += readWidths(in.symbol(rowCode), filled, total);
            }
        }

        /** One width or one that is told several times: how many they are. */
        private int readWidths(int s, int filled, int total) {
            if (s == AGAIN && filled == 0) {
                in.fail(BAD_ROW);
            }
            int times = leastTimes(s) + in.field(rowFieldBits(s));
            int end = filled + times;
            if (end > total || end > row.length) {
                in.fail(BAD_ROW);
            }
            if (in.fault != 0) {
                return 0;
            }
            int w = s < AGAIN ? s : s == AGAIN && filled > 0 ? row[filled - 1] : 0;
            for (int i = filled; i < end; i++) {
                row[i] = w;
            }
            return times;
        }

        private static int leastTimes(int s) {
            switch (s) {
                case AGAIN:
                    return LEAST_AGAIN;
                case FEW_ZEROS:
                    return LEAST_FEW;
                case MANY_ZEROS:
                    return LEAST_MANY;
                default:
                    return 1;
            }
        }

        private void takeRow(int from, int n, Code code) {
            Arrays.fill(code.widths, 0);
            for (int i = 0; i < n && i < code.widths.length && from + i < row.length; i++) {
                code.widths[i] = row[from + i];
            }
            code.settle();
        }
    }
}
