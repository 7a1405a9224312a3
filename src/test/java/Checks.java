import java.nio.charset.StandardCharsets;
import java.util.Arrays;

/** Counts the answers of one test and tells those that are not as due. */
final class Checks {
    private final String name;
    private int asked;
    private int wrong;

    Checks(String name) {
        this.name = name;
    }

    void due(String call, long got, long want) {
        same(call, Long.toString(got), Long.toString(want));
    }

    void same(String call, String got, String want) {
        asked++;
        if (!got.equals(want)) {
            wrong++;
            if (wrong <= 40) {
                System.out.println(name + ": " + call + " answered " + got + ", due is " + want);
            }
        }
    }

    void row(String call, int[] got, int... want) {
        same(call, Arrays.toString(got), Arrays.toString(want));
    }

    void holds(String what, boolean fact) {
        due(what, fact ? 1 : 0, 1);
    }

    /** open() tells this FAULT and its place, and changes nothing else. */
    void fault(String what, Bits bits, int frame, int fault, int place) {
        DeflateBlocks x = Sample.small();
        bits.moveTo(x);
        Snapshot before = new Snapshot(x);
        due(what, x.open(frame), -10 - fault);
        due(what + ", its place", x.place(), place);
        before.staysButForPlace(this, what, x);
        Sample.cutsStay(this, what, x);
    }

    /** open() has no FAULT: the object that opened it. */
    DeflateBlocks good(String what, Bits bits, int frame, int bytes) {
        DeflateBlocks x = Sample.small();
        bits.moveTo(x);
        due(what, x.open(frame), bytes);
        due(what + ", no place", x.place(), DeflateBlocks.NONE);
        due(what + ", no byte behind", x.at(bytes), DeflateBlocks.NONE);
        return x;
    }

    void end() {
        System.out.println(name + ": " + asked + " answers, " + wrong + " not as due");
        if (wrong != 0) {
            System.exit(1);
        }
    }

    static DeflateBlocks withData(int... bytes) {
        DeflateBlocks x = new DeflateBlocks();
        for (int v : bytes) {
            x.octet(v);
        }
        return x;
    }

    static DeflateBlocks withData(byte[] bytes) {
        int[] row = new int[bytes.length];
        for (int i = 0; i < row.length; i++) {
            row[i] = bytes[i] & 255;
        }
        return withData(row);
    }

    static DeflateBlocks withData(String text) {
        return withData(text.getBytes(StandardCharsets.ISO_8859_1));
    }

    static DeflateBlocks withTape(byte[] bytes) {
        DeflateBlocks x = new DeflateBlocks();
        for (byte b : bytes) {
            x.more(b & 255);
        }
        return x;
    }

    static byte[] dataOf(DeflateBlocks x) {
        byte[] row = new byte[300];
        int n = 0;
        while (n < row.length && x.at(n) != DeflateBlocks.NONE) {
            row[n] = (byte) x.at(n);
            n++;
        }
        return Arrays.copyOf(row, n);
    }

    static byte[] tapeOf(DeflateBlocks x) {
        byte[] row = new byte[400];
        int n = 0;
        while (n < row.length && x.tape(n) != DeflateBlocks.NONE) {
            row[n] = (byte) x.tape(n);
            n++;
        }
        return Arrays.copyOf(row, n);
    }

    /** What is told of a BLOCK: KIND, place, bytes, first bit, bits. */
    static int[] block(DeflateBlocks x, int i) {
        int[] facts = new int[5];
        for (int what = 0; what < 5; what++) {
            facts[what] = x.block(i, what);
        }
        return facts;
    }

    /** What is told of a step: place, LENGTH, DISTANCE or byte. */
    static int[] step(DeflateBlocks x, int i) {
        return new int[] {x.step(i, 0), x.step(i, 1), x.step(i, 2)};
    }
}
