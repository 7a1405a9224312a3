import java.util.Arrays;

/**
 * Part 4 and promises 7 and 8: each FAULT with its place, alone (all behind it is as it should be,
 * where something can be) and with others behind it; and next to it what is no FAULT.
 */
public final class FaultTest {
    private static final Checks C = new Checks("FaultTest");
    private static final int[] NO_DISTANCE = {0};
    /** A byte of one bit, 256 and 257 of two. */
    private static final int[] THREE_SYMBOLS = Bits.widths(258, 65, 1, 256, 2, 257, 2);

    public static void main(String[] args) {
        noBit();
        noBitAheadOfWhatItWouldShow();
        kind3();
        plainNumbers();
        totals();
        rowCode();
        sixteenFirst();
        tooManyWidths();
        symbolsCode();
        noWordFor256();
        distancesCode();
        noWordOfOne();
        noWordOfNone();
        noWordOfFixed();
        tooFar();
        tooManyByWord();
        tooManyByRepeat();
        tooManyByPlain();
        headOf1();
        headOf2();
        sumOf1();
        sumOf2();
        numberOfBytes();
        bytesBehind();
        oneBehindAnother();
        C.end();
    }

    /** What stands there shows the FAULT, whatever comes behind it. */
    private static void shown(String what, Bits bits, int frame, int fault) {
        int place = bits.length();
        C.fault(what, bits, frame, fault, place);
        bits.field(-1, 31).octets(255, 255, 255, 255);
        C.fault(what + ", and others behind it", bits, frame, fault, place);
    }

    /** It is shown right here, and nothing else is wrong with what comes behind it. */
    private static void alone(String what, int place, Bits whole, int frame, int fault) {
        C.fault(what + ", and no other", whole, frame, fault, place);
    }

    private static void noBit() {
        for (int frame = 0; frame < 3; frame++) {
            C.fault("an empty TAPE", new Bits(), frame, 1, 0);
            for (int level = 0; level < 3; level++) {
                DeflateBlocks x = Checks.withData("a rose is a rose is a rose");
                x.cutAt(7);
                for (int n = x.pack(frame, level) - 1; n >= 0; n--) {
                    x.keep(n);
                    C.due("a tape cut short", x.open(frame), -11);
                    C.due("its place", x.place(), 8 * n);
                }
            }
        }
        C.fault("no bit of the next BLOCK", new Bits().plain(false, 7), 0, 1, 48);
        C.fault("four bits of a LENGTH's FIELD of five", Bits.last(1).fixed(200).fixed(284), 0, 1, 24);
        C.fault("no word of a DISTANCE", Bits.last(1).fixed(65).fixed(284), 0, 1, 24);
        C.fault("one bit of a DISTANCE's FIELD of 13", Bits.last(1).fixed(65).fixed(257).fixedDistance(29), 0, 1, 24);
        C.fault("no byte of KIND 0", Bits.last(0).octets(1, 0, 254, 255), 0, 1, 40);
    }

    /** Without the last bit of what would show another FAULT there is just this one. */
    private static void noBitAheadOfWhatItWouldShow() {
        C.fault("half of wrong numbers", Bits.last(0).octets(1, 0, 0), 0, 1, 32);
        C.fault("h of 31 and no c", Bits.last(2).field(31, 5).field(31, 5).field(0, 3), 0, 1, 16);
        C.fault("18 behind 257 of 258 widths, and one bit of its FIELD", Bits.allRowWords(0, 0).tell(18, 127)
                .tell(18, 108).rowWord(18).field(0, 1), 0, 1, 104);
        C.fault("one byte of FRAME 1", new Bits().octets(255), 1, 1, 8);
        C.fault("three bytes of FRAME 2", new Bits().octets(255, 255, 255), 2, 1, 24);
        C.fault("three bytes of ADLER", framed(1, 255, 255, 255), 1, 1, 56);
        C.fault("three bytes of CRC", framed(2, 255, 255, 255), 2, 1, 120);
        C.fault("three bytes of the number", framed(2, 0, 0, 0, 0, 255, 255, 255), 2, 1, 152);
    }

    private static void kind3() {
        shown("KIND 3", Bits.last(3), 0, 2);
        shown("KIND 3, not the last one", new Bits().begin(false, 3), 0, 2);
        shown("KIND 3 behind a BLOCK", new Bits().begin(false, 1).fixed(256).begin(true, 3), 0, 2);
        shown("KIND 3 in FRAME 1", new Bits().octets(120, 1).begin(true, 3), 1, 2);
        shown("KIND 3 in FRAME 2", new Bits().octets(31, 139, 8, 0, 0, 0, 0, 0, 0, 255).begin(true, 3), 2, 2);
    }

    private static void plainNumbers() {
        for (int k = 0; k < 16; k++) {
            int wrong = 65534 ^ 1 << k;
            Bits bits = Bits.last(0).octets(1, 0, wrong & 255, wrong >> 8);
            alone("bit " + k + " of KIND 0's numbers", 40, bits.octets(7), 0, 3);
        }
        shown("n twice", Bits.last(0).octets(1, 0, 1, 0), 0, 3);
        shown("n of 301, wrong", Bits.last(0).octets(45, 1, 210, 255), 0, 3);
        shown("n of 65535, wrong", Bits.last(0).octets(255, 255, 255, 255), 0, 3);
        C.good("KIND 0", Bits.last(0).octets(1, 0, 254, 255, 7), 0, 1);
    }

    private static void totals() {
        for (int[] hk : new int[][] {{30, 0}, {31, 0}, {0, 30}, {0, 31}, {29, 30}, {30, 29}, {31, 31}}) {
            Bits bits = Bits.last(2).field(hk[0], 5).field(hk[1], 5).field(15, 4);
            shown("h " + hk[0] + ", k " + hk[1], bits, 0, 4);
        }
        // All else is as it should be: the widths that are too many are 0.
        int[] tooMany = Bits.widths(287, 0, 1, 256, 1);
        alone("h 30", 17, new Bits().own(true, tooMany, NO_DISTANCE).word("0 1"), 0, 4);
        alone("k 30", 17, new Bits().own(true, Bits.widths(257, 0, 1, 256, 1), new int[31]).word("0 1"), 0, 4);
        int[] most = Bits.widths(286, 0, 1, 256, 1);
        C.good("h 29, k 29", new Bits().own(true, most, new int[30]).word("0 0 1"), 0, 2);
    }

    /** A BLOCK of KIND 2 with four widths of the WIDTH CODE: for 16, 17, 18 and 0. */
    private static Bits four(int sixteen, int seventeen, int eighteen, int zero) {
        return Bits.last(2).field(0, 14).field(sixteen, 3).field(seventeen, 3).field(eighteen, 3).field(zero, 3);
    }

    private static void rowCode() {
        shown("WIDTH CODE of none", four(0, 0, 0, 0), 0, 5);
        shown("WIDTH CODE of one", four(0, 0, 1, 0), 0, 5);
        shown("WIDTH CODE not FULL", four(1, 2, 0, 0), 0, 5);
        shown("WIDTH CODE not FULL by the last of 7", four(1, 2, 3, 7), 0, 5);
        shown("WIDTH CODE OVERFULL", four(1, 1, 1, 0), 0, 5);
        shown("WIDTH CODE OVERFULL by one of 7", four(1, 1, 0, 7), 0, 5);
        shown("WIDTH CODE OVERFULL by the last of 2", four(1, 2, 2, 2), 0, 5);
        C.fault("asked behind c + 4 widths", Bits.last(2).field(0, 10).field(15, 4).field(-1, 31), 0, 1, 48);
        Bits nineteen = Bits.last(2).field(0, 10).field(15, 4);
        for (int i = 0; i < 19; i++) {
            nineteen.field(7, 3);
        }
        shown("WIDTH CODE of nineteen of 7", nineteen, 0, 5);
        C.fault("WIDTH CODE FULL by two, then no SYMBOLS", four(0, 0, 1, 1).word("1").field(127, 7).word("1")
                .field(109, 7), 0, 7, 29 + 16);
    }

    private static void sixteenFirst() {
        // Words: 0 is 0, 18 is 10, 16 is 110, 17 is 111. The TAPE ends with the word: no FIELD.
        C.fault("16 first, without its FIELD", four(3, 3, 2, 1).word("110"), 0, 6, 32);
        shown("16 first", four(2, 2, 2, 2).word("01"), 0, 6);
        shown("16 first, of all words", Bits.allRowWords(0, 0).rowWord(16), 0, 6);
        Bits rest = Bits.allRowWords(0, 0).tell(16, 0);
        int place = rest.length() - 2;
        alone("16 first", place, rest.tell(18, 127).tell(18, 103).tell(1, 0).tell(1, 0).tell(0, 0), 0, 6);
        C.good("16 second", Bits.allRowWords(0, 0).tell(3, 0).tell(16, 3).tell(18, 127).tell(18, 100)
                .tell(3, 0).tell(0, 0).word("000 111"), 0, 1);
    }

    private static void tooManyWidths() {
        // Words: 0 is 00, 16 is 01, 17 is 10, 18 is 11; 258 widths there should be.
        C.fault("just 258, all 0", zeros(258 - 138), 0, 7, 29 + 18);
        shown("259 by 18", zeros(259 - 138), 0, 6);
        shown("276 by 18", zeros(138), 0, 6);
        C.fault("257 and one alone", zeros(119).word("00"), 0, 7, 29 + 18 + 2);
        C.fault("255 and 3 by 17", zeros(117).word("10").field(0, 3), 0, 7, 29 + 18 + 5);
        shown("255 and 4 by 17", zeros(117).word("10").field(1, 3), 0, 6);
        shown("256 and 3 by 17", zeros(118).word("10").field(0, 3), 0, 6);
        shown("257 and 10 by 17", zeros(119).word("10").field(7, 3), 0, 6);
        C.fault("255 and 3 by 16", zeros(117).word("01").field(0, 2), 0, 7, 29 + 18 + 4);
        shown("255 and 4 by 16", zeros(117).word("01").field(1, 2), 0, 6);
        shown("257 and 6 by 16", zeros(119).word("01").field(3, 2), 0, 6);
        shown("257 and 11 by 18", zeros(119).word("11").field(0, 7), 0, 6);
        // Of 286 and 30 there are 316.
        Bits most = Bits.allRowWords(29, 29).tell(18, 127).tell(18, 127).tell(18, 29);
        C.fault("just 316, all 0", most, 0, 7, most.length());
        shown("317", Bits.allRowWords(29, 29).tell(18, 127).tell(18, 127).tell(18, 30), 0, 6);
    }

    /** 138 widths of 0, and so many more. */
    private static Bits zeros(int more) {
        return four(2, 2, 2, 2).word("11").field(127, 7).word("11").field(more - 11, 7);
    }

    private static void symbolsCode() {
        int[][] wrong = {
            Bits.widths(257, 256, 1), Bits.widths(257, 0, 1, 256, 2), Bits.widths(257, 0, 2, 1, 2, 256, 2),
            Bits.widths(257, 0, 1, 1, 1, 256, 1), Bits.widths(257, 0, 1, 1, 1, 256, 15),
            Bits.widths(257, 0, 2, 1, 2, 2, 15, 256, 1), Bits.widths(257, 256, 15)
        };
        for (int[] symbols : wrong) {
            String what = "SYMBOLS' CODE of " + Arrays.stream(symbols).filter(w -> w > 0).boxed().toList();
            shown(what, new Bits().own(true, symbols, NO_DISTANCE), 0, 7);
            shown(what + ", and DISTANCES' CODE OVERFULL", new Bits().own(true, symbols, new int[] {1, 1, 1}), 0, 7);
        }
        int[] two = Bits.widths(257, 0, 1, 256, 1);
        C.good("SYMBOLS' CODE of two", new Bits().own(true, two, NO_DISTANCE).word("0 1"), 0, 1);
    }

    private static void noWordFor256() {
        shown("256 has no word", new Bits().own(true, Bits.widths(257, 0, 1, 1, 1), NO_DISTANCE), 0, 7);
        shown("no SYMBOL has a word", new Bits().own(true, new int[257], NO_DISTANCE), 0, 7);
        shown("257 has one, 256 none", new Bits().own(true, Bits.widths(258, 0, 1, 257, 1), new int[] {1}), 0, 7);
        C.fault("it is asked behind all widths", new Bits().own(true, new int[257], new int[30]), 0, 7,
                3 + 14 + 57 + 4 * 287);
    }

    private static void distancesCode() {
        int[][] wrong = {
            {1, 1, 1}, {1, 1, 15}, {1, 2, 2, 2}, {1, 2}, {2, 2, 2}, {15, 15}, {2}, {0, 0, 15}, {0, 2}
        };
        for (int[] distances : wrong) {
            Bits bits = new Bits().own(true, THREE_SYMBOLS, distances);
            int place = bits.length();
            shown("DISTANCES' CODE " + Arrays.toString(distances), bits, 0, 8);
            // The words behind it have no use of a DISTANCE.
            alone("DISTANCES' CODE", place, new Bits().own(true, THREE_SYMBOLS, distances).word("0 10"), 0, 8);
        }
        C.good("no DISTANCES", new Bits().own(true, THREE_SYMBOLS, NO_DISTANCE).word("0 10"), 0, 1);
        C.good("thirty of 0", new Bits().own(true, THREE_SYMBOLS, new int[30]).word("0 10"), 0, 1);
        C.good("one of 1", new Bits().own(true, THREE_SYMBOLS, new int[] {0, 1}).word("0 0 11 0 10"), 0, 5);
        C.good("two of 1", new Bits().own(true, THREE_SYMBOLS, new int[] {1, 1}).word("0 0 11 1 11 0 10"), 0, 8);
        C.good("1, 2, 2", new Bits().own(true, THREE_SYMBOLS, new int[] {2, 1, 2}).word("0 0 11 10 10"), 0, 5);
    }

    private static void noWordOfOne() {
        shown("of one word 1", new Bits().own(true, THREE_SYMBOLS, new int[] {1}).word("0 11 1"), 0, 9);
        shown("of one word 1, none there", new Bits().own(true, THREE_SYMBOLS, new int[] {1}).word("11 1"), 0, 9);
        Bits bits = new Bits().own(true, THREE_SYMBOLS, new int[] {1}).word("0 11 1");
        alone("of one word 1", bits.length(), bits.word("0 10"), 0, 9);
    }

    /** It is told at once behind the LENGTH's FIELD, without a bit more, also at THE TAPE's end. */
    private static void noWordOfNone() {
        shown("of no DISTANCES", new Bits().own(true, THREE_SYMBOLS, NO_DISTANCE).word("0 11"), 0, 9);
        int[] withField = Bits.widths(266, 65, 1, 256, 2, 265, 2);
        shown("of no DISTANCES, behind a FIELD", new Bits().own(true, withField, NO_DISTANCE).word("0 11 1"), 0, 9);
        Bits atTheEnd = new Bits().own(true, THREE_SYMBOLS, NO_DISTANCE);
        while (atTheEnd.length() % 8 != 6) {
            atTheEnd.word("0");
        }
        atTheEnd.word("11");
        C.fault("of no DISTANCES, at the end", atTheEnd, 0, 9, atTheEnd.length());
        shown("of no DISTANCES, none there", new Bits().own(true, THREE_SYMBOLS, NO_DISTANCE).word("11"), 0, 9);
    }

    private static void noWordOfFixed() {
        for (int s = 286; s < 288; s++) {
            shown("SYMBOL " + s, Bits.last(1).fixed(s), 0, 9);
            shown("SYMBOL " + s + " behind a byte", Bits.last(1).fixed(65).fixed(s), 0, 9);
        }
        for (int s = 30; s < 32; s++) {
            shown("DISTANCE " + s, Bits.last(1).fixed(65).fixed(285).fixedDistance(s), 0, 9);
            shown("DISTANCE " + s + ", none there", Bits.last(1).fixed(257).fixedDistance(s), 0, 9);
        }
        Bits bits = Bits.last(1).fixed(286);
        alone("SYMBOL 286", 11, bits.fixed(256), 0, 9);
    }

    private static Bits letters(int n) {
        Bits bits = Bits.last(1);
        for (int i = 0; i < n; i++) {
            bits.fixed(65 + i % 7);
        }
        return bits;
    }

    private static void tooFar() {
        shown("1 back, none there", letters(0).fixed(257).fixedDistance(0), 0, 10);
        shown("2 back, one there", letters(1).fixed(257).fixedDistance(1), 0, 10);
        C.good("2 back, two there", letters(2).fixed(257).fixedDistance(1).fixed(256), 0, 5);
        shown("6 back, five there", letters(5).fixed(265).field(1, 1).fixedDistance(4).field(1, 1), 0, 10);
        C.good("5 back, five there", letters(5).fixed(265).field(1, 1).fixedDistance(4).field(0, 1).fixed(256), 0, 17);
        shown("32768 back", letters(3).fixed(285).fixedDistance(29).field(8191, 13), 0, 10);
        Bits bits = letters(1).fixed(257).fixedDistance(1);
        alone("2 back, one there", bits.length(), bits.fixed(256), 0, 10);
        // DATA's begin, not the BLOCK's.
        C.good("back to a BLOCK before", new Bits().plain(false, 1, 2, 3).begin(true, 1).fixed(257).fixedDistance(2)
                .fixed(256), 0, 6);
        shown("4 back, three in a BLOCK before", new Bits().plain(false, 1, 2, 3).begin(true, 1).fixed(257)
                .fixedDistance(3), 0, 10);
    }

    /** A byte, 258 and 40 of it again: 299 bytes. */
    private static Bits almost300() {
        return letters(1).fixed(285).fixedDistance(0).fixed(273).field(5, 3).fixedDistance(0);
    }

    private static void tooManyByWord() {
        C.good("300 by a byte", almost300().fixed(66).fixed(256), 0, 300);
        shown("301 by a byte", almost300().fixed(66).fixed(67), 0, 11);
        Bits bits = almost300().fixed(66).fixed(67);
        alone("301 by a byte", bits.length(), bits.fixed(256), 0, 11);
        C.good("300 by 300 words", letters(300).fixed(256), 0, 300);
        shown("301 by 301 words", letters(301), 0, 11);
        int[] full = Sample.unlike(300);
        C.good("300, then an empty BLOCK", new Bits().plain(false, full).begin(true, 1).fixed(256), 0, 300);
        shown("300, then a byte of KIND 1", new Bits().plain(false, full).begin(true, 1).fixed(7), 0, 11);
    }

    private static void tooManyByRepeat() {
        Bits three = new Bits().plain(false, Sample.unlike(297)).begin(true, 1).fixed(257).fixedDistance(0);
        C.good("300 by a REPEAT of 3", three.fixed(256), 0, 300);
        shown("301 by a REPEAT of 3", new Bits().plain(false, Sample.unlike(298)).begin(true, 1).fixed(257)
                .fixedDistance(0), 0, 11);
        shown("301 by a REPEAT of 4", new Bits().plain(false, Sample.unlike(297)).begin(true, 1).fixed(258)
                .fixedDistance(0), 0, 11);
        shown("557 by a REPEAT of 258", almost300().fixed(285).fixedDistance(0), 0, 11);
        shown("303 by a REPEAT with a FIELD", new Bits().plain(false, Sample.unlike(300)).begin(true, 1).fixed(257)
                .fixedDistance(16).field(43, 7), 0, 11);
        shown("too far ahead of too many", almost300().fixed(285).fixedDistance(16).field(299 - 256, 7), 0, 10);
        Bits bits = almost300().fixed(257).fixedDistance(0);
        alone("302 by a REPEAT of 3", bits.length(), bits.fixed(256), 0, 11);
    }

    /** It is shown by the byte that DATA have no room for. */
    private static void tooManyByPlain() {
        int[] data = Sample.unlike(300);
        C.good("300 as they are", new Bits().plain(true, data), 0, 300);
        shown("301 as they are", Bits.last(0).octets(45, 1, 210, 254).octets(data).octets(9), 0, 11);
        C.fault("301 as they are, 300 there", Bits.last(0).octets(45, 1, 210, 254).octets(data), 0, 1, 8 * 305);
        shown("two more behind 299", plainBehind(299, 1, 2), 0, 11);
        C.good("one more behind 299", plainBehind(299, 1), 0, 300);
    }

    private static Bits plainBehind(int n, int... values) {
        return new Bits().plain(false, Sample.unlike(n)).plain(true, values);
    }

    /** No DATA in a FRAME, and the bytes of its end. */
    private static Bits framed(int frame, int... end) {
        int[] head = frame == 1 ? new int[] {120, 1} : new int[] {31, 139, 8, 0, 0, 0, 0, 0, 0, 255};
        return new Bits().octets(head).begin(true, 1).fixed(256).octets(end);
    }

    private static Bits headed(int... head) {
        return new Bits().octets(head).begin(true, 1).fixed(256).octets(0, 0, 0, 1);
    }

    private static void headOf1() {
        // Of the four things that are asked just one is wrong with each pair.
        int[][] wrong = {{121, 24}, {136, 28}, {120, 2}, {120, 187}};
        boolean[][] isGood = {
            {false, true, true, true}, {true, false, true, true}, {true, true, false, true}, {true, true, true, false}
        };
        for (int i = 0; i < 4; i++) {
            int a = wrong[i][0];
            int b = wrong[i][1];
            boolean[] sorts = {a % 16 == 8, a / 16 <= 7, (256 * a + b) % 31 == 0, (b & 32) == 0};
            C.same("what is wrong with " + a + " " + b, Arrays.toString(sorts), Arrays.toString(isGood[i]));
            alone("head " + a + " " + b, 16, headed(a, b), 1, 12);
            shown("head " + a + " " + b, new Bits().octets(a, b), 1, 12);
        }
        for (int[] more : new int[][] {{120, 0}, {120, 32}, {119, 1}, {0, 0}, {255, 255}, {1, 120}, {248, 14}}) {
            shown("head " + more[0] + " " + more[1], new Bits().octets(more), 1, 12);
        }
        for (int[] right : new int[][] {{120, 1}, {120, 94}, {120, 156}, {120, 218}, {8, 29}, {24, 25}, {104, 5}}) {
            C.good("head " + right[0] + " " + right[1], headed(right), 1, 0);
        }
    }

    private static void headOf2() {
        int[] ten = {31, 139, 8, 0, 1, 2, 3, 4, 5, 6};
        for (int i = 0; i < 4; i++) {
            for (int k = 0; k < 8; k++) {
                int[] other = ten.clone();
                other[i] ^= 1 << k;
                Bits bits = new Bits().octets(other).begin(true, 1).fixed(256).octets(0, 0, 0, 0, 0, 0, 0, 0);
                alone("head of 2, byte " + i, 32, bits, 2, 12);
                shown("head of 2, byte " + i, new Bits().octets(Arrays.copyOf(other, 4)), 2, 12);
            }
        }
        C.fault("head of 2, nine bytes", new Bits().octets(Arrays.copyOf(ten, 9)), 2, 1, 72);
        C.good("six that are not looked at", new Bits().octets(ten).begin(true, 1).fixed(256)
                .octets(0, 0, 0, 0, 0, 0, 0, 0), 2, 0);
    }

    private static void sumOf1() {
        C.good("ADLER of no DATA", framed(1, 0, 0, 0, 1), 1, 0);
        for (int bit = 0; bit < 32; bit++) {
            int[] sum = {0, 0, 0, 1};
            sum[bit / 8] ^= 1 << bit % 8;
            Bits bits = framed(1, sum);
            alone("ADLER", bits.length(), bits, 1, 13);
            shown("ADLER", bits, 1, 13);
        }
        shown("ADLER, lowest byte first", framed(1, 1, 0, 0, 0), 1, 13);
        DeflateBlocks x = Checks.withData("sums");
        int n = x.pack(1, 1);
        x.flip(n - 1, 0);
        C.due("ADLER of DATA", x.open(1), -23);
        C.due("its place", x.place(), 8 * n);
        x.flip(n - 1, 0);
        C.due("the sum again", x.open(1), 4);
    }

    private static void sumOf2() {
        for (int bit = 0; bit < 32; bit++) {
            int[] sum = {0, 0, 0, 0};
            sum[bit / 8] ^= 1 << bit % 8;
            Bits bits = framed(2, sum);
            int place = bits.length();
            shown("CRC", bits, 2, 13);
            alone("CRC", place, framed(2, sum).octets(0, 0, 0, 0), 2, 13);
        }
        DeflateBlocks x = Checks.withData("sums");
        int n = x.pack(2, 1);
        x.flip(n - 5, 7);
        C.due("CRC of DATA", x.open(2), -23);
        C.due("its place", x.place(), 8 * n - 32);
        x.flip(n - 5, 7);
        C.due("the sum again", x.open(2), 4);
    }

    private static void numberOfBytes() {
        for (int bit = 0; bit < 32; bit++) {
            int[] number = {0, 0, 0, 0};
            number[bit / 8] ^= 1 << bit % 8;
            Bits bits = framed(2, 0, 0, 0, 0).octets(number);
            alone("the number of bytes", bits.length(), bits, 2, 14);
            shown("the number of bytes", bits, 2, 14);
        }
        C.good("no byte", framed(2, 0, 0, 0, 0, 0, 0, 0, 0), 2, 0);
        DeflateBlocks x = Checks.withData(Sample.equals(300, 1));
        int n = x.pack(2, 3);
        x.flip(n - 3, 0);
        C.due("44, not 300", x.open(2), -24);
        C.due("its place", x.place(), 8 * n);
    }

    private static void bytesBehind() {
        Bits[] whole = {Bits.last(1).fixed(256), framed(1, 0, 0, 0, 1), framed(2, 0, 0, 0, 0, 0, 0, 0, 0)};
        for (int frame = 0; frame < 3; frame++) {
            C.good("none behind", whole[frame], frame, 0);
            shown("one byte behind", whole[frame].octets(0), frame, 15);
        }
        Bits plain = new Bits().plain(true, 1);
        shown("one behind KIND 0, at a byte's end", plain.octets(3), 0, 15);
    }

    /** As one is mended, the next one is told. */
    private static void oneBehindAnother() {
        DeflateBlocks x = Checks.withData("one behind another");
        int n = x.pack(2, 1);
        x.more(0);
        x.flip(n - 4, 3);
        x.flip(n - 8, 3);
        x.flip(10, 2);
        x.flip(1, 1);
        told(x, 12, 32);
        x.flip(1, 1);
        told(x, 2, 83);
        x.flip(10, 2);
        told(x, 13, 8 * n - 32);
        x.flip(n - 8, 3);
        told(x, 14, 8 * n);
        x.flip(n - 4, 3);
        told(x, 15, 8 * n + 8);
        x.keep(n);
        C.due("none any more", x.open(2), 18);
        C.due("no place", x.place(), -1);
        x.keep(n - 1);
        told(x, 1, 8 * n - 8);
    }

    private static void told(DeflateBlocks x, int fault, int place) {
        C.due("FAULT " + fault, x.open(2), -10 - fault);
        C.due("its place", x.place(), place);
    }
}
