import java.util.Random;

/**
 * Objects that hold something of all sorts: DATA, two CUTS, a packed TAPE, BLOCKS and widths that
 * are told, and the place of a FAULT.
 */
final class Sample {
    static final int FIRST_CUT = 7, SECOND_CUT = 250, PLACE = 16;

    private Sample() {
    }

    /** 20 bytes, so that the second CUT stands behind them. */
    static DeflateBlocks small() {
        DeflateBlocks x = Checks.withData("abcabcabcabcabcabcab");
        spoilAndMend(x);
        return x;
    }

    /** 300 bytes that take more than 400 by FRAME 2 and LEVEL 2. */
    static DeflateBlocks fullData() {
        DeflateBlocks x = Checks.withData(noise(1, 300));
        spoilAndMend(x);
        return x;
    }

    static DeflateBlocks fullTape() {
        DeflateBlocks x = small();
        for (int v = x.keep(0); v < 400; v++) {
            x.more(v % 251);
        }
        return x;
    }

    private static void spoilAndMend(DeflateBlocks x) {
        x.cutAt(SECOND_CUT);
        x.cutAt(FIRST_CUT);
        x.pack(1, 2);
        x.flip(0, 0);
        x.open(1);
        x.flip(0, 0);
    }

    /** Both CUTS are there, and no other. */
    static void cutsStay(Checks c, String what, DeflateBlocks x) {
        c.due(what + ", the first CUT behind it", x.cutAt(FIRST_CUT), 2);
        c.due(what + ", the second CUT behind it", x.cutAt(SECOND_CUT), 2);
        c.due(what + ", no CUT more behind it", x.cutAt(FIRST_CUT + 1), DeflateBlocks.ROOM);
    }

    static int[] noise(long seed, int n) {
        return new Random(seed).ints(n, 0, 256).toArray();
    }

    static int[] equals(int n, int value) {
        int[] row = new int[n];
        java.util.Arrays.fill(row, value);
        return row;
    }

    /** At most 300 bytes of which no three stand there twice; 253 to 255 are not among them. */
    static int[] unlike(int n) {
        int[] row = new int[n];
        for (int i = 0; i < n; i++) {
            row[i] = i < 253 ? i : (i - 253) * 2;
        }
        return row;
    }
}
