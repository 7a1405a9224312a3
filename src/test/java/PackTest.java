import java.util.Arrays;
import java.util.Random;
import java.util.Set;

/** Promises 6, 9, 10, 11 and 12: rows worked out by hand, and the edges of pack() and its tellers. */
public final class PackTest {
    private static final int NONE = -1, OUTSIDE = -2, ROOM = -3;
    private static final int[] FAR = {Integer.MIN_VALUE, -1, 1000, Integer.MAX_VALUE};
    private static final Checks C = new Checks("PackTest");

    public static void main(String[] args) {
        bounds();
        knownTapes();
        repeats();
        ownCodes();
        across();
        oneAfterAnother();
        levels();
        ties();
        room();
        C.end();
    }

    private static void tape(String what, DeflateBlocks x, int... want) {
        byte[] got = Checks.tapeOf(x);
        C.due(what + ", bytes", got.length, want.length);
        for (int i = 0; i < want.length; i++) {
            C.due(what + ", byte " + i, x.tape(i), want[i]);
        }
    }

    private static void row(String what, int[] got, int... want) {
        C.holds(what + " " + Arrays.toString(got) + ", due is " + Arrays.toString(want), Arrays.equals(got, want));
    }

    private static int[] block(DeflateBlocks x, int i) {
        int[] facts = new int[5];
        for (int what = 0; what < 5; what++) {
            facts[what] = x.block(i, what);
        }
        return facts;
    }

    private static int[] step(DeflateBlocks x, int i) {
        return new int[] {x.step(i, 0), x.step(i, 1), x.step(i, 2)};
    }

    private static void bounds() {
        DeflateBlocks x = Checks.withData("aaaa");
        for (int far : FAR) {
            C.due("pack frame", x.pack(far, 0), OUTSIDE);
            C.due("pack level", x.pack(0, far), OUTSIDE);
            C.due("block what", x.block(0, far), OUTSIDE);
            C.due("step what", x.step(0, far), OUTSIDE);
            C.due("step i", x.step(far, 0), NONE);
            C.due("width which", x.width(far, 0), OUTSIDE);
            for (int which = 0; which < 3; which++) {
                C.due("width s", x.width(which, far), OUTSIDE);
            }
        }
        C.due("pack(3, 0)", x.pack(3, 0), OUTSIDE);
        C.due("pack(0, 4)", x.pack(0, 4), OUTSIDE);
        C.due("nothing packed", x.tape(0), NONE);
        C.due("no BLOCK", x.block(0, 0), NONE);
        x.pack(0, 2);
        for (int far : FAR) {
            C.due("block i", x.block(far, 0), NONE);
            C.due("block what ahead of i", x.block(far, 5), OUTSIDE);
        }
        C.due("block(0, 5)", x.block(0, 5), OUTSIDE);
        C.due("block(1, 0)", x.block(1, 0), NONE);
        C.due("step(0, 3)", x.step(0, 3), OUTSIDE);
        C.due("step what ahead of i", x.step(99, 3), OUTSIDE);
        C.due("width(0, 285)", x.width(0, 285), 0);
        C.due("width(0, 286)", x.width(0, 286), OUTSIDE);
        C.due("width(1, 29)", x.width(1, 29), 0);
        C.due("width(1, 30)", x.width(1, 30), OUTSIDE);
        C.due("width(2, 18)", x.width(2, 18) > 0 ? 1 : 0, 1);
        C.due("width(2, 19)", x.width(2, 19), OUTSIDE);
        C.due("width(3, 0)", x.width(3, 0), OUTSIDE);
    }

    private static void knownTapes() {
        DeflateBlocks x = Checks.withData("a");
        C.due("pack(0, 0)", x.pack(0, 0), 6);
        tape("a, as it is", x, 1, 1, 0, 254, 255, 97);
        C.due("pack(0, 1)", x.pack(0, 1), 3);
        tape("a, fixed", x, 0x4b, 0x04, 0x00);
        C.due("pack(1, 1)", x.pack(1, 1), 9);
        tape("a, fixed, ADLER", x, 120, 1, 0x4b, 0x04, 0x00, 0, 98, 0, 98);
        row("BLOCK", block(x, 0), 1, 0, 1, 16, 18);
        C.due("pack(2, 1)", x.pack(2, 1), 21);
        tape("a, fixed, CRC", x, 31, 139, 8, 0, 0, 0, 0, 0, 0, 255, 0x4b, 0x04, 0x00,
                0x43, 0xbe, 0xb7, 0xe8, 1, 0, 0, 0);
        row("BLOCK", block(x, 0), 1, 0, 1, 80, 18);
        x = Checks.withData("aaaaaaaaaa");
        x.pack(0, 1);
        tape("ten of a", x, 0x4b, 0x84, 0x03, 0x00);
        x = Checks.withData("ab");
        x.cutAt(1);
        C.due("two BLOCKS as they are", x.pack(0, 0), 12);
        tape("two BLOCKS", x, 0, 1, 0, 254, 255, 97, 1, 1, 0, 254, 255, 98);
        row("BLOCK 0", block(x, 0), 0, 0, 1, 0, 48);
        row("BLOCK 1", block(x, 1), 0, 1, 1, 48, 48);
    }

    private static void repeats() {
        DeflateBlocks x = new DeflateBlocks();
        for (int i = 0; i < 300; i++) {
            x.octet(7);
        }
        C.due("steps of 300 equals", x.steps(), 3);
        row("step 0", step(x, 0), 0, 1, 7);
        row("step 1", step(x, 1), 1, 258, 1);
        row("step 2", step(x, 2), 259, 41, 1);
        x.cutAt(299);
        x.cutAt(3);
        C.due("steps with CUTS", x.steps(), 6);
        row("step 1, cut", step(x, 1), 1, 1, 7);
        row("step 3, cut", step(x, 3), 3, 258, 1);
        row("step 4, cut", step(x, 4), 261, 38, 1);
        row("step 5, cut", step(x, 5), 299, 1, 7);
        x = Checks.withData("abcd-abce-abcd");
        C.due("steps", x.steps(), 9);
        row("three", step(x, 5), 5, 3, 5);
        row("a byte between", step(x, 6), 8, 1, 'e');
        row("four", step(x, 7), 9, 4, 5);
        row("the last byte", step(x, 8), 13, 1, 'd');
        row("none behind", step(x, 9), NONE, NONE, NONE);
        x = Checks.withData("abcd1abc2abcd");
        row("the longest, not the latest", step(x, 7), 9, 4, 9);
        x = Checks.withData("abc1abc2abc");
        row("the latest of equals", step(x, 6), 8, 3, 4);
        x = Checks.withData("ababa");
        row("running into itself", step(x, 2), 2, 3, 2);
        x = Checks.withData("abab");
        C.due("two are no run", x.steps(), 4);
        x.octet('a');
        C.due("steps follow DATA", x.steps(), 3);
        x.cutAt(4);
        C.due("steps follow CUTS", x.steps(), 5);
    }

    private static void ownCodes() {
        // a 4 times, b twice, c once and the end once: widths 1, 2, 3, 3.
        DeflateBlocks x = Checks.withData("abacaba");
        C.due("steps", x.steps(), 5);
        x = Checks.withData("aabacab");
        C.due("steps, no REPEATS", x.steps(), 7);
        x.pack(0, 2);
        C.due("width of a", x.width(0, 'a'), 1);
        C.due("width of b", x.width(0, 'b'), 2);
        C.due("width of c", x.width(0, 'c'), 3);
        C.due("width of 256", x.width(0, 256), 3);
        C.due("width of d", x.width(0, 'd'), 0);
        C.due("no DISTANCES", x.width(1, 0), 0);
        // a, b, c once each, the end once: all 2. Then the one REPEAT's SYMBOL makes five.
        x = Checks.withData("abcabc");
        x.pack(0, 2);
        C.due("one DISTANCE alone", x.width(1, 2), 1);
        C.due("came earlier", x.width(0, 'a'), 3);
        C.due("came earlier, too", x.width(0, 'b'), 3);
        C.due("came later", x.width(0, 'c'), 2);
        C.due("came later, 256", x.width(0, 256), 2);
        C.due("came later, 257", x.width(0, 257), 2);
        // The last BLOCK of KIND 2 is told, not the first.
        x = Checks.withData("abcdabc");
        x.cutAt(4);
        x.pack(0, 2);
        C.due("first BLOCK's a is not told", x.width(0, 'a'), 0);
        C.due("last BLOCK's 257", x.width(0, 257), 1);
        C.due("last BLOCK's 256", x.width(0, 256), 1);
        C.due("last BLOCK's DISTANCE", x.width(1, 3), 1);
        x.pack(0, 1);
        C.due("no KIND 2 any more", x.width(0, 256), NONE);
    }

    /** Widths of SYMBOLS and DISTANCES are one row: 1 of 256, then 1 of 257, 0 and 1 by one 16. */
    private static void across() {
        DeflateBlocks x = Checks.withData("ababaaaa");
        x.cutAt(2);
        row("a REPEAT of 2 back", step(x, 2), 2, 3, 2);
        row("a REPEAT of 1 back", step(x, 3), 5, 3, 1);
        x.pack(0, 2);
        C.due("width of 256", x.width(0, 256), 1);
        C.due("width of 257", x.width(0, 257), 1);
        C.due("width of DISTANCE 0", x.width(1, 0), 1);
        C.due("width of DISTANCE 1", x.width(1, 1), 1);
        C.due("the WIDTH CODE has 16", x.width(2, 16), 2);
        C.due("the WIDTH CODE has 18", x.width(2, 18), 1);
        C.due("the WIDTH CODE has 1", x.width(2, 1), 2);
        C.due("bits", x.block(1, 4), 3 + 14 + 3 * 18 + 2 * 8 + 2 + 4 + 5);
    }

    /** A shorter row behind a longer one in the same object. */
    private static void oneAfterAnother() {
        DeflateBlocks x = Checks.withData("many letters, hardly a repeat in sight");
        x.cutAt(5);
        C.due("steps", x.steps(), 38);
        x.pack(2, 2);
        x.empty();
        DeflateBlocks y = new DeflateBlocks();
        for (char c : "tiny text".toCharArray()) {
            x.octet(c);
            y.octet(c);
        }
        for (int level = 0; level < 4; level++) {
            C.due("pack", x.pack(0, level), y.pack(0, level));
            C.holds("the same tape", Arrays.equals(Checks.tapeOf(x), Checks.tapeOf(y)));
            row("the same BLOCK", block(x, 0), block(y, 0));
            C.due("no other BLOCK", x.block(1, 0), NONE);
        }
        C.due("steps", x.steps(), 9);
        C.due("step behind", x.step(9, 0), NONE);
    }

    private static void levels() {
        DeflateBlocks x = new DeflateBlocks();
        for (int i = 0; i < 60; i++) {
            x.octet(i * 89 + 150 & 255 | 128);
        }
        for (int i = 0; i < 200; i++) {
            x.octet("0110100110010110"
                    .charAt(i * i * 7 / 13 % 16));
        }
        for (int i = 0; i < 4; i++) {
            x.octet('p' + i);
        }
        x.cutAt(260);
        x.cutAt(60);
        C.due("level 3", x.pack(0, 3) > 0 ? 1 : 0, 1);
        C.due("KIND of noise", x.block(0, 0), 0);
        C.due("KIND of few", x.block(2, 0), 1);
        C.due("place of few", x.block(2, 1), 260);
        for (int level = 0; level < 3; level++) {
            x.pack(0, level);
            for (int i = 0; i < 3; i++) {
                C.due("KIND by level", x.block(i, 0), level);
            }
        }
        x = new DeflateBlocks();
        for (int i = 0; i < 200; i++) {
            x.octet(200 + Integer.bitCount(i * 2654435 & 1023) % 3);
        }
        x.pack(0, 3);
        C.due("KIND of three values", x.block(0, 0), 2);
        C.holds("widths are told", x.width(0, 201) > 0);
    }

    private static void ties() {
        for (int n = 28; n <= 30; n++) {
            DeflateBlocks x = new DeflateBlocks();
            for (int i = 0; i < n; i++) {
                x.octet(144 + i * 37 % 112);
            }
            x.pack(0, 1);
            C.due("bits of KIND 1", x.block(0, 4), 10 + 9 * n);
            x.pack(0, 0);
            C.due("bits of KIND 0", x.block(0, 4), 40 + 8 * n);
            x.pack(0, 3);
            C.due("KIND of " + n + " wide ones", x.block(0, 0), n < 30 ? 1 : 0);
        }
    }

    private static int[] noise(long seed, int n) {
        return new Random(seed).ints(n, 0, 256).toArray();
    }

    private static DeflateBlocks withNoise(int[] data) {
        DeflateBlocks x = new DeflateBlocks();
        for (int v : data) {
            x.octet(v);
        }
        return x;
    }

    private static void room() {
        int[] data = noise(1, 300);
        DeflateBlocks x = withNoise(data);
        C.due("as they are", x.pack(2, 0), 300 + 5 + 18);
        x.cutAt(100);
        x.cutAt(200);
        C.due("too much", x.pack(2, 2), ROOM);
        C.due("THE TAPE stays", x.tape(319), 300 - 256);
        C.due("THE TAPE stays as long", x.tape(323), NONE);
        row("BLOCKS stay", block(x, 0), 0, 0, 300, 80, 2440);
        C.due("no BLOCK more", x.block(1, 0), NONE);
        C.due("no widths", x.width(0, 256), NONE);
        C.due("DATA stay", x.at(299), data[299]);
        C.due("OUTSIDE is ahead of ROOM", x.pack(3, 2), OUTSIDE);
        C.due("CUTS stay", x.cutAt(100), 2);
        C.due("it opens still", x.open(2), 300);
        roomsEdge(400);
        roomsEdge(401);
    }

    /** Looks for a row whose tape has just so many bytes. */
    private static void roomsEdge(int bytes) {
        for (long seed = 0; seed < 10000; seed++) {
            int[] data = noise(seed, 270 + (int) (seed % 30));
            if (Model.pack(data, Set.of(80, 180), 2, 2).bytes().length == bytes) {
                DeflateBlocks x = withNoise(data);
                x.cutAt(180);
                x.cutAt(80);
                C.due("a tape of " + bytes, x.pack(2, 2), bytes > 400 ? ROOM : bytes);
                C.due("its number of bytes", x.tape(bytes - 3), bytes > 400 ? NONE : data.length >> 8);
                return;
            }
        }
        C.holds("a row was found for " + bytes, false);
    }
}
