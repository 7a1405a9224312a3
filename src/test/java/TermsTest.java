/** The document's terms and its parts 1 and 2: LENGTHS, DISTANCES, CODES, KINDS at their edges. */
public final class TermsTest {
    private static final int NONE = -1;
    private static final Checks C = new Checks("TermsTest");

    /** The published tables: the first LENGTH and DISTANCE of each SYMBOL, and bits of its FIELD. */
    private static final int[] LENGTHS = {
        3, 4, 5, 6, 7, 8, 9, 10, 11, 13, 15, 17, 19, 23, 27, 31, 35, 43, 51, 59, 67, 83, 99, 115, 131, 163, 195, 227,
        258
    };
    private static final int[] LENGTH_FIELDS = {
        0, 0, 0, 0, 0, 0, 0, 0, 1, 1, 1, 1, 2, 2, 2, 2, 3, 3, 3, 3, 4, 4, 4, 4, 5, 5, 5, 5, 0
    };
    private static final int[] DISTANCES = {
        1, 2, 3, 4, 5, 7, 9, 13, 17, 25, 33, 49, 65, 97, 129, 193, 257, 385, 513, 769, 1025, 1537, 2049, 3073, 4097,
        6145, 8193, 12289, 16385, 24577
    };
    private static final int[] DISTANCE_FIELDS = {
        0, 0, 0, 0, 1, 1, 2, 2, 3, 3, 4, 4, 5, 5, 6, 6, 7, 7, 8, 8, 9, 9, 10, 10, 11, 11, 12, 12, 13, 13
    };

    public static void main(String[] args) {
        bitsOfTheTape();
        lengthsOpened();
        lengthsPacked();
        lengthOf258();
        distancesOpened();
        distancesBeyond();
        distancesPacked();
        wordsInTheirOrder();
        fullAndOverfull();
        fixedWordsOpened();
        fixedWordsPacked();
        standsForNothing();
        plainOfNoByte();
        plainOf300Bytes();
        bitsNotLookedAt();
        rowsAtTheirLeastAndMost();
        sixteenBehindZeros();
        rowsAcross();
        fewRowWidths();
        mostSymbols();
        C.end();
    }

    /** Of each byte the lowest bit first, FIELDS with their lowest, words with their highest. */
    private static void bitsOfTheTape() {
        DeflateBlocks x = new DeflateBlocks();
        // 1 last, 10 KIND 1, 10010001 the byte 97, 0000000 the end.
        x.more(0b01001011);
        x.more(0b00000100);
        x.more(0);
        C.due("open", x.open(0), 1);
        C.due("at(0)", x.at(0), 97);
        C.row("BLOCK", Checks.block(x, 0), 1, 0, 1, 0, 18);
    }

    private static void lengthsOpened() {
        for (int i = 0; i < LENGTHS.length; i++) {
            int greatest = (1 << LENGTH_FIELDS[i]) - 1;
            lengthOpened(i, 0);
            lengthOpened(i, greatest);
        }
    }

    private static void lengthOpened(int i, int field) {
        int length = LENGTHS[i] + field;
        Bits bits = Bits.last(1).fixed(65).fixed(257 + i).field(field, LENGTH_FIELDS[i]).fixedDistance(0).fixed(256);
        DeflateBlocks x = C.good("LENGTH " + length + " by " + (257 + i), bits, 0, 1 + length);
        C.due("its last byte", x.at(length), 65);
    }

    /** Each LENGTH as one REPEAT of a byte: which SYMBOL tells it, and in how many bits. */
    private static void lengthsPacked() {
        for (int length = 3; length <= 258; length++) {
            int i = 28;
            while (LENGTHS[i] > length) {
                i--;
            }
            DeflateBlocks x = Checks.withData(Sample.equals(1 + length, 65));
            C.row("step 1", Checks.step(x, 1), 1, length, 1);
            x.pack(0, 2);
            C.holds("LENGTH " + length + " by " + (257 + i), x.width(0, 257 + i) > 0);
            x.pack(0, 1);
            int word = i < 23 ? 7 : 8;
            C.due("bits of LENGTH " + length, x.block(0, 4), 3 + 8 + word + LENGTH_FIELDS[i] + 5 + 7);
            x.empty();
            C.due("open", x.open(0), 1 + length);
            C.due("its last byte", x.at(length), 65);
        }
    }

    private static void lengthOf258() {
        DeflateBlocks x = Checks.withData(Sample.equals(259, 65));
        x.pack(0, 2);
        C.holds("258 by 285", x.width(0, 285) > 0);
        C.due("258 not by 284", x.width(0, 284), 0);
        x.pack(0, 1);
        C.row("258 by LEVEL 1", Checks.block(x, 0), 1, 0, 259, 0, 3 + 8 + 8 + 5 + 7);
        Bits bits = Bits.last(1).fixed(65).fixed(284).field(31, 5).fixedDistance(0).fixed(256);
        C.good("258 by 284, opened", bits, 0, 259);
    }

    private static Bits behind(int[] data) {
        return new Bits().plain(false, data).begin(true, 1).fixed(257);
    }

    private static void distancesOpened() {
        for (int i = 0; i <= 16; i++) {
            distanceOpened(i, 0);
            distanceOpened(i, Math.min((1 << DISTANCE_FIELDS[i]) - 1, 297 - DISTANCES[i]));
        }
    }

    private static void distanceOpened(int i, int field) {
        int[] data = Sample.unlike(297);
        int distance = DISTANCES[i] + field;
        Bits bits = behind(data).fixedDistance(i).field(field, DISTANCE_FIELDS[i]).fixed(256);
        DeflateBlocks x = C.good("DISTANCE " + distance, bits, 0, 300);
        for (int n = 0; n < 3; n++) {
            int want = data[297 - distance + n % distance];
            C.due("DISTANCE " + distance + ", at(" + (297 + n) + ")", x.at(297 + n), want);
        }
    }

    /** Those that DATA can't have show by their FAULT how many bits they take. */
    private static void distancesBeyond() {
        int[] data = Sample.unlike(297);
        Bits next = behind(data).fixedDistance(16).field(298 - 257, 7);
        C.fault("DISTANCE 298 of 297", next, 0, 10, next.length());
        for (int i = 17; i < 30; i++) {
            Bits least = behind(data).fixedDistance(i).field(0, DISTANCE_FIELDS[i]);
            C.fault("DISTANCE " + i + " at its least", least, 0, 10, least.length());
            Bits most = behind(data).fixedDistance(i).field(-1, DISTANCE_FIELDS[i]);
            C.fault("DISTANCE " + i + " at its most", most, 0, 10, most.length());
        }
    }

    /** Three bytes that stand again so far behind: a BLOCK of this REPEAT alone. */
    private static void distancesPacked() {
        for (int distance = 3; distance <= 297; distance++) {
            int i = 29;
            while (DISTANCES[i] > distance) {
                i--;
            }
            DeflateBlocks x = Checks.withData(253, 254, 255);
            for (int v : Sample.unlike(distance - 3)) {
                x.octet(v);
            }
            x.octet(253);
            x.octet(254);
            x.octet(255);
            x.cutAt(distance);
            C.row("step at " + distance, Checks.step(x, distance), distance, 3, distance);
            x.pack(0, 2);
            C.due("DISTANCE " + distance + " by " + i, x.width(1, i), 1);
            x.pack(0, 1);
            C.due("bits of DISTANCE " + distance, x.block(1, 4), 3 + 7 + 5 + DISTANCE_FIELDS[i] + 7);
        }
        DeflateBlocks x = Checks.withData("aaaabababab");
        C.row("DISTANCE 1", Checks.step(x, 1), 1, 3, 1);
        C.row("DISTANCE 2", Checks.step(x, 3), 5, 6, 2);
    }

    private static void wordsInTheirOrder() {
        int[] none = {0};
        int[] widths = Bits.widths(257, 65, 2, 66, 1, 67, 3, 256, 3);
        DeflateBlocks x = C.good("words of 1, 2, 3", new Bits().own(true, widths, none).word("110 10 0 111"), 0, 3);
        C.row("its bytes", new int[] {x.at(0), x.at(1), x.at(2)}, 67, 65, 66);
        widths = Bits.widths(257, 65, 3, 66, 1, 67, 3, 68, 3, 256, 3);
        x = C.good("words of 1 and 3", new Bits().own(true, widths, none).word("110 101 100 0 111"), 0, 4);
        C.row("its bytes", new int[] {x.at(0), x.at(1), x.at(2), x.at(3)}, 68, 67, 65, 66);
    }

    /** All words of width 15: one too few and one too many are told, the just number is not. */
    private static void fullAndOverfull() {
        int[] full = new int[257];
        for (int i = 0; i < 15; i++) {
            full[i] = i + 1;
        }
        full[256] = 15;
        Bits bits = new Bits().own(true, full, new int[] {0});
        C.good("just FULL", bits.word("0 111111111111111"), 0, 1);
        int[] notFull = full.clone();
        notFull[14] = 0;
        bits = new Bits().own(true, notFull, new int[] {0});
        C.fault("a word of 15 too few", bits, 0, 7, bits.length());
        int[] overfull = full.clone();
        overfull[15] = 15;
        bits = new Bits().own(true, overfull, new int[] {0});
        C.fault("a word of 15 too many", bits, 0, 7, bits.length());
    }

    private static void fixedWordsOpened() {
        int[] bytes = {0, 143, 144, 255};
        String[] words = {"00110000", "10111111", "110010000", "111111111"};
        for (int i = 0; i < bytes.length; i++) {
            DeflateBlocks x = C.good("word " + words[i], Bits.last(1).word(words[i]).word("0000000"), 0, 1);
            C.due("its byte", x.at(0), bytes[i]);
        }
        Bits first = Bits.last(1).fixed(65).word("0000001 00000 0000000");
        C.good("257, the first LENGTH", first, 0, 4);
        Bits narrow = Bits.last(1).fixed(65).word("0010111 1111 00000 0000000");
        C.good("279, the last of 7 bits", narrow, 0, 1 + 114);
        Bits wide = Bits.last(1).fixed(65).word("11000000 0000 00000 0000000");
        C.good("280, the first of 8 bits", wide, 0, 1 + 115);
        Bits last = Bits.last(1).fixed(65).word("11000101 00000 0000000");
        C.good("285, the last LENGTH", last, 0, 259);
        Bits far = Bits.last(1).fixed(65).word("0000001 11101").field(0, 13);
        C.fault("DISTANCE 29", far, 0, 10, far.length());
    }

    private static void fixedWordsPacked() {
        DeflateBlocks x = Checks.withData(0, 143, 144, 255);
        x.pack(0, 1);
        DeflateBlocks want = Bits.last(1).word("00110000 10111111 110010000 111111111 0000000").onTape();
        C.row("0, 143, 144, 255", signed(Checks.tapeOf(x)), signed(Checks.tapeOf(want)));
        C.due("their bits", x.block(0, 4), 3 + 8 + 8 + 9 + 9 + 7);
    }

    private static int[] signed(byte[] row) {
        int[] all = new int[row.length];
        for (int i = 0; i < row.length; i++) {
            all[i] = row[i];
        }
        return all;
    }

    private static void standsForNothing() {
        C.fault("SYMBOL 286", Bits.last(1).word("11000110"), 0, 9, 3 + 8);
        C.fault("SYMBOL 287", Bits.last(1).word("11000111"), 0, 9, 3 + 8);
        C.fault("DISTANCE 30", Bits.last(1).fixed(65).fixed(257).word("11110"), 0, 9, 3 + 8 + 7 + 5);
        C.fault("DISTANCE 31", Bits.last(1).fixed(65).fixed(257).word("11111"), 0, 9, 3 + 8 + 7 + 5);
    }

    private static void plainOfNoByte() {
        DeflateBlocks x = C.good("KIND 0 of no byte", new Bits().plain(true), 0, 0);
        C.row("BLOCK", Checks.block(x, 0), 0, 0, 0, 0, 40);
        Bits three = new Bits().plain(false).begin(false, 1).fixed(65).fixed(256).plain(false).plain(true, 66);
        x = C.good("KIND 0 of no byte among others", three, 0, 2);
        C.row("BLOCK 0", Checks.block(x, 0), 0, 0, 0, 0, 40);
        C.row("BLOCK 1", Checks.block(x, 1), 1, 0, 1, 40, 18);
        C.row("BLOCK 2", Checks.block(x, 2), 0, 1, 0, 58, 38);
        C.row("BLOCK 3", Checks.block(x, 3), 0, 1, 1, 96, 48);
        C.due("at(1)", x.at(1), 66);
    }

    private static void plainOf300Bytes() {
        int[] data = Sample.unlike(300);
        DeflateBlocks x = C.good("KIND 0 of 300 bytes", new Bits().plain(true, data), 0, 300);
        C.row("BLOCK", Checks.block(x, 0), 0, 0, 300, 0, 40 + 2400);
        C.due("at(299)", x.at(299), data[299]);
        x.pack(0, 0);
        int[] five = {x.tape(0), x.tape(1), x.tape(2), x.tape(3), x.tape(4)};
        C.row("300 and 65235, packed", five, 1, 44, 1, 211, 254);
    }

    /** Bits up to a byte's begin, ahead of KIND 0's numbers and behind the last BLOCK. */
    private static void bitsNotLookedAt() {
        DeflateBlocks plain = Checks.withData("bits");
        plain.pack(0, 0);
        DeflateBlocks fixed = Checks.withData("bits");
        fixed.pack(0, 1);
        int last = fixed.block(0, 4);
        C.due("bits of four bytes", last, 42);
        for (int k = 3; k < 8; k++) {
            plain.flip(0, k);
            C.due("open, bit " + k + " changed", plain.open(0), 4);
            C.due("place", plain.place(), NONE);
        }
        for (int bit = last; bit < 48; bit++) {
            fixed.flip(bit / 8, bit % 8);
            C.due("open, bit " + bit + " changed", fixed.open(0), 4);
            C.due("the BLOCK's bits", fixed.block(0, 4), 42);
        }
    }

    private static void rowsAtTheirLeastAndMost() {
        // Eight words of width 3: seven for 0 to 6, told by 16 three times or six times, and 256.
        Bits least = Bits.allRowWords(0, 0).tell(3, 0).tell(16, 0).tell(3, 0).tell(3, 0).tell(3, 0);
        Bits most = Bits.allRowWords(0, 0).tell(3, 0).tell(16, 3);
        for (Bits bits : new Bits[] {least, most}) {
            // 249 of width 0: 3 and 10 by 17, 11, 138 and 87 by 18; then 256 and no DISTANCE.
            bits.tell(17, 0).tell(17, 7).tell(18, 0).tell(18, 127).tell(18, 76).tell(3, 0).tell(0, 0);
            DeflateBlocks x = C.good("16, 17, 18", bits.word("000 110 111"), 0, 2);
            C.row("its bytes", new int[] {x.at(0), x.at(1)}, 0, 6);
            for (int s = 0; s < 286; s++) {
                C.due("width of " + s, x.width(0, s), s < 7 || s == 256 ? 3 : 0);
            }
            C.due("width of DISTANCE 0", x.width(1, 0), 0);
        }
    }

    /** 16 tells the one before again, also if it is 0 and was told by 17, 18 or alone. */
    private static void sixteenBehindZeros() {
        Bits bits = Bits.allRowWords(0, 0).tell(1, 0).tell(0, 0).tell(16, 3).tell(17, 0).tell(16, 0).tell(18, 0)
                .tell(16, 3).tell(18, 127).tell(18, 76).tell(1, 0).tell(0, 0);
        DeflateBlocks x = C.good("16 behind 0s", bits.word("0 0 1"), 0, 2);
        C.due("width of 0", x.width(0, 0), 1);
        C.due("width of 255", x.width(0, 255), 0);
        C.due("width of 256", x.width(0, 256), 1);
    }

    /** What is told several times goes on from SYMBOLS to DISTANCES. */
    private static void rowsAcross() {
        // 254 of width 0; then SYMBOLS 254 to 257 and four DISTANCES of width 2.
        Bits same = Bits.allRowWords(1, 3).tell(18, 127).tell(18, 105).tell(2, 0).tell(2, 0).tell(16, 3);
        DeflateBlocks x = C.good("16 across", same.word("00 00 11 01 10"), 0, 5);
        for (int i = 0; i < 4; i++) {
            C.due("width of " + (254 + i), x.width(0, 254 + i), 2);
            C.due("width of DISTANCE " + i, x.width(1, i), 2);
        }
        C.due("width of 253", x.width(0, 253), 0);
        C.due("width of DISTANCE 4", x.width(1, 4), 0);
        Bits zeros = Bits.allRowWords(29, 29).tell(1, 0).tell(18, 127).tell(18, 106).tell(1, 0).tell(18, 47).tell(1, 0);
        x = C.good("18 across", zeros.word("0 1"), 0, 1);
        C.due("width of 285", x.width(0, 285), 0);
        C.due("width of DISTANCE 28", x.width(1, 28), 0);
        C.due("width of DISTANCE 29", x.width(1, 29), 1);
    }

    /** Those of the WIDTH CODE that are not told are 0, whatever was told of an earlier BLOCK. */
    private static void fewRowWidths() {
        Bits bits = new Bits().own(false, Bits.widths(257, 5, 1, 256, 1), new int[] {0}).word("0 1");
        bits.begin(true, 2).field(0, 5).field(0, 5).field(1, 4);
        // Widths for 16, 17, 18, 0 and 8 alone: 8 is 0, 0 is 10, 16 is 11.
        bits.field(2, 3).field(0, 3).field(0, 3).field(2, 3).field(1, 3);
        for (int n = 0; n < 255; n++) {
            bits.word("0");
        }
        bits.word("10 0 10");
        DeflateBlocks x = C.good("five widths of the WIDTH CODE", bits.word("00000000 11111111"), 0, 2);
        C.row("its bytes", new int[] {x.at(0), x.at(1)}, 5, 0);
        for (int s = 0; s < 19; s++) {
            C.due("the WIDTH CODE's " + s, x.width(2, s), s == 8 ? 1 : s == 0 || s == 16 ? 2 : 0);
        }
    }

    private static void mostSymbols() {
        int[] symbols = Bits.widths(286, 0, 2, 256, 2, 285, 1);
        int[] distances = Bits.widths(30, 0, 1, 29, 1);
        Bits bits = new Bits().own(true, symbols, distances).word("10 0 0 11");
        DeflateBlocks x = C.good("286 SYMBOLS and 30 DISTANCES", bits, 0, 259);
        C.due("width of 285", x.width(0, 285), 1);
        C.due("width of DISTANCE 29", x.width(1, 29), 1);
        Bits far = new Bits().own(true, symbols, distances).word("10 0 1").field(-1, 13);
        C.fault("32768 back", far, 0, 10, far.length());
    }
}
