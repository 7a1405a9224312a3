import java.util.Arrays;

/** Part 3, LEVELS and FRAMES, and promise 6: tapes worked out by hand, and their edges. */
public final class PackTest {
    private static final Checks C = new Checks("PackTest");

    /** Rows of one BLOCK that takes as many bits by two KINDS, or by all three. */
    private static final int[] FIXED_AND_OWN_ALIKE = {
        228, 229, 230, 229, 231, 230, 231, 229, 228, 231, 230, 228, 229, 229, 228, 229, 231, 230, 229
    };
    private static final int[] PLAIN_AND_OWN_ALIKE = {
        250, 243, 247, 243, 236, 215, 246, 214, 247, 224, 211, 231, 219, 232, 236, 233, 254, 241, 204, 251, 237, 214,
        222, 223, 236, 202, 207, 209, 213, 219, 202, 213, 221, 211, 243, 252, 246, 206, 207, 208, 205, 243, 202, 213,
        202, 230, 250, 223, 228, 221, 232, 242, 201
    };
    private static final int[] ALL_ALIKE = {
        221, 250, 247, 235, 223, 228, 255, 253, 228, 228, 247, 239, 255, 223, 225, 225, 227, 254, 246, 223, 228, 222,
        242, 227, 234, 237, 251, 245, 231, 243
    };

    public static void main(String[] args) {
        oneByte();
        tenOfAByte();
        twoBlocks();
        framesOfNoData();
        framesOf300Bytes();
        levelsByKind();
        levelOfTheFewestBits();
        levelWithEquals();
        levelWhereItStands();
        levelBlockByBlock();
        repeatsWhateverTheKind();
        otherBitsAre0();
        oneAfterAnother();
        C.end();
    }

    private static void tape(String what, DeflateBlocks x, int... want) {
        int[] got = new int[Checks.tapeOf(x).length];
        for (int i = 0; i < got.length; i++) {
            got[i] = x.tape(i);
        }
        C.row(what, got, want);
    }

    private static void packed(String what, DeflateBlocks x, int frame, int level, int... want) {
        C.due(what + ", pack(" + frame + ", " + level + ")", x.pack(frame, level), want.length);
        tape(what + ", pack(" + frame + ", " + level + ")", x, want);
    }

    private static void oneByte() {
        DeflateBlocks x = Checks.withData("a");
        packed("a", x, 0, 0, 1, 1, 0, 254, 255, 97);
        packed("a", x, 0, 1, 0x4b, 0x04, 0x00);
        packed("a", x, 1, 1, 120, 1, 0x4b, 0x04, 0x00, 0, 98, 0, 98);
        C.row("its BLOCK", Checks.block(x, 0), 1, 0, 1, 16, 18);
        packed("a", x, 2, 1, 31, 139, 8, 0, 0, 0, 0, 0, 0, 255, 0x4b, 0x04, 0x00, 0x43, 0xbe, 0xb7, 0xe8, 1, 0, 0, 0);
        C.row("its BLOCK", Checks.block(x, 0), 1, 0, 1, 80, 18);
    }

    private static void tenOfAByte() {
        packed("ten of a", Checks.withData("aaaaaaaaaa"), 0, 1, 0x4b, 0x84, 0x03, 0x00);
    }

    private static void twoBlocks() {
        DeflateBlocks x = Checks.withData("ab");
        x.cutAt(1);
        packed("two BLOCKS", x, 0, 0, 0, 1, 0, 254, 255, 97, 1, 1, 0, 254, 255, 98);
        C.row("BLOCK 0", Checks.block(x, 0), 0, 0, 1, 0, 48);
        C.row("BLOCK 1", Checks.block(x, 1), 0, 1, 1, 48, 48);
    }

    private static void framesOfNoData() {
        DeflateBlocks x = new DeflateBlocks();
        packed("no DATA", x, 0, 0, 1, 0, 0, 255, 255);
        packed("no DATA", x, 0, 1, 3, 0);
        packed("no DATA", x, 0, 3, 3, 0);
        packed("no DATA", x, 1, 0, 120, 1, 1, 0, 0, 255, 255, 0, 0, 0, 1);
        packed("no DATA", x, 1, 3, 120, 1, 3, 0, 0, 0, 0, 1);
        packed("no DATA", x, 2, 3, 31, 139, 8, 0, 0, 0, 0, 0, 0, 255, 3, 0, 0, 0, 0, 0, 0, 0, 0, 0);
        // h 0, k 0, c 14; widths 1 for 18, 2 for 0 and 1; then 1 18:127 18:106 1 0, and the end.
        DeflateBlocks own = Bits.last(2).word("00000 00000 0111 000 000 100 010").field(0, 13 * 3).word("010")
                .word("11 01111111 00101011 11 10 1").onTape();
        x.pack(0, 2);
        C.same("no DATA, pack(0, 2)", Arrays.toString(Checks.tapeOf(x)), Arrays.toString(Checks.tapeOf(own)));
    }

    private static void framesOf300Bytes() {
        DeflateBlocks x = Checks.withData(Sample.equals(300, 255));
        int n = x.pack(2, 3);
        int[] number = {x.tape(n - 4), x.tape(n - 3), x.tape(n - 2), x.tape(n - 1)};
        C.row("the number of bytes, lowest byte first", number, 44, 1, 0, 0);
        int crc = x.sum(1);
        for (int i = 0; i < 4; i++) {
            C.due("CRC, lowest byte first", x.tape(n - 8 + i), crc >>> 8 * i & 255);
        }
        n = x.pack(1, 3);
        int adler = x.sum(0);
        for (int i = 0; i < 4; i++) {
            C.due("ADLER, highest byte first", x.tape(n - 1 - i), adler >>> 8 * i & 255);
        }
    }

    private static DeflateBlocks threeSorts() {
        DeflateBlocks x = new DeflateBlocks();
        for (int i = 0; i < 60; i++) {
            x.octet(i * 89 + 150 & 255 | 128);
        }
        for (int v : Sample.noise(4, 200)) {
            x.octet(Integer.bitCount(v) % 3);
        }
        for (int i = 0; i < 4; i++) {
            x.octet('p' + i);
        }
        x.cutAt(260);
        x.cutAt(60);
        return x;
    }

    private static void levelsByKind() {
        DeflateBlocks x = threeSorts();
        for (int level = 0; level < 3; level++) {
            x.pack(0, level);
            C.row("KINDS by LEVEL", new int[] {x.block(0, 0), x.block(1, 0), x.block(2, 0)}, level, level, level);
        }
    }

    private static void levelOfTheFewestBits() {
        DeflateBlocks x = threeSorts();
        x.pack(0, 3);
        C.row("KINDS by LEVEL 3", new int[] {x.block(0, 0), x.block(1, 0), x.block(2, 0)}, 0, 2, 1);
        C.holds("widths of the one of KIND 2", x.width(0, 1) > 0 && x.width(0, 'p') == 0);
    }

    private static void levelWithEquals() {
        alike("KINDS 1 and 2", FIXED_AND_OWN_ALIKE, 1, 192, 168, 168);
        alike("KINDS 0 and 2", PLAIN_AND_OWN_ALIKE, 0, 464, 487, 464);
        alike("all KINDS", ALL_ALIKE, 0, 280, 280, 280);
        // Wide bytes of 9 bits: 10 + 9 n by KIND 1, 40 + 8 n by KIND 0.
        alike("29 wide bytes", wide(29), 1, 272, 271, 0);
        alike("30 wide bytes", wide(30), 0, 280, 280, 0);
    }

    private static int[] wide(int n) {
        int[] row = new int[n];
        for (int i = 0; i < n; i++) {
            row[i] = 144 + i * 37 % 112;
        }
        return row;
    }

    /** Bits of 0: this KIND takes more than the others, no matter how many. */
    private static void alike(String what, int[] data, int kind, int... bits) {
        DeflateBlocks x = Checks.withData(data);
        for (int level = 0; level < 3; level++) {
            x.pack(0, level);
            if (bits[level] > 0) {
                C.due(what + ", bits of KIND " + level, x.block(0, 4), bits[level]);
            } else {
                C.holds(what + ", more bits of KIND " + level, x.block(0, 4) > bits[kind]);
            }
        }
        x.pack(0, 3);
        C.row(what + ", LEVEL 3", Checks.block(x, 0), kind, 0, data.length, 0, bits[kind]);
    }

    /**
     * A BLOCK of "x" and w wide bytes ends at bit 18 + 9 w; behind it KIND 0 takes 3 bits, what
     * fills their byte, and 32 + 8 n, KIND 1 takes 10 + 9 n.
     */
    private static void levelWhereItStands() {
        int[][] wideAndAlike = {{0, 28}, {1, 27}, {2, 26}, {3, 25}, {6, 30}, {7, 29}};
        for (int[] pair : wideAndAlike) {
            stands(pair[0], pair[1] - 1, 1);
            stands(pair[0], pair[1], 0);
        }
    }

    private static void stands(int wide, int n, int kind) {
        int[] all = wide(wide + n);
        DeflateBlocks x = Checks.withData("x");
        for (int v : all) {
            x.octet(v);
        }
        x.cutAt(1 + wide);
        int first = 18 + 9 * wide;
        int fill = -(first + 3) & 7;
        x.pack(0, 3);
        int bits = kind == 0 ? 3 + fill + 32 + 8 * n : 10 + 9 * n;
        C.row(n + " bytes from bit " + first + " on", Checks.block(x, 1), kind, 1 + wide, n, first, bits);
    }

    private static void levelBlockByBlock() {
        DeflateBlocks x = threeSorts();
        x.pack(1, 3);
        int bit = 16;
        for (int i = 0; i < 3; i++) {
            C.due("the first bit of BLOCK " + i, x.block(i, 3), bit);
            bit += x.block(i, 4);
        }
        C.due("bytes of all", Checks.tapeOf(x).length, 2 + (bit - 16 + 7) / 8 + 4);
    }

    /** A BLOCK as it is stands ahead, and REPEATS go back into it. */
    private static void repeatsWhateverTheKind() {
        DeflateBlocks x = Checks.withData(wide(40));
        for (int v : wide(40)) {
            x.octet(v);
        }
        x.cutAt(40);
        x.pack(0, 3);
        C.row("KINDS", new int[] {x.block(0, 0), x.block(1, 0)}, 0, 1);
        C.row("the last step", Checks.step(x, 40), 40, 40, 40);
        C.due("bits of a REPEAT alone", x.block(1, 4), 3 + 7 + 3 + 5 + 4 + 7);
        x.empty();
        C.due("open", x.open(0), 80);
        C.due("at(79)", x.at(79), 144 + 39 * 37 % 112);
    }

    /** Bits that are not looked at, where other BLOCKS were written and taken back before. */
    private static void otherBitsAre0() {
        DeflateBlocks x = Checks.withData(wide(30));
        x.pack(0, 1);
        C.due("THE TAPE's first byte by KIND 1", x.tape(0) & 7, 3);
        C.holds("other bits of it are not all 0", x.tape(0) >> 3 != 0);
        x.pack(0, 3);
        C.due("KIND", x.block(0, 0), 0);
        C.due("THE TAPE's first byte by KIND 0", x.tape(0), 1);
        for (int n = 1; n <= 8; n++) {
            DeflateBlocks y = Checks.withData(wide(30));
            y.pack(0, 0);
            y.empty();
            for (int v : wide(n)) {
                y.octet(v);
            }
            int bytes = y.pack(0, 1);
            int used = 10 + 9 * n & 7;
            C.due("bits behind the last BLOCK", used == 0 ? 0 : y.tape(bytes - 1) >> used, 0);
        }
    }

    /** Rows behind others in the same object: nothing of an earlier one is left. */
    private static void oneAfterAnother() {
        int[] letters = Sample.unlike(100);
        int[] few = {116, 105, 110, 121};
        int[] equals = Sample.equals(60, 9);
        int[][][] pairs = {
            {letters, few}, {letters, equals}, {equals, letters}, {equals, few}, {few, equals}, {few, {}}
        };
        for (int[][] pair : pairs) {
            DeflateBlocks x = Checks.withData(pair[0]);
            x.cutAt(50);
            x.pack(2, 2);
            x.empty();
            for (int v : pair[1]) {
                x.octet(v);
            }
            asNew(x, Checks.withData(pair[1]));
            x.cutAt(2);
            DeflateBlocks y = Checks.withData(pair[1]);
            y.cutAt(2);
            asNew(x, y);
        }
    }

    private static void asNew(DeflateBlocks x, DeflateBlocks y) {
        for (int level = 0; level < 4; level++) {
            C.due("pack", x.pack(0, level), y.pack(0, level));
            new Snapshot(y).stays(C, "behind another row, LEVEL " + level, x);
        }
    }
}
