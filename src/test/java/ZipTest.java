import java.io.ByteArrayInputStream;
import java.util.Arrays;
import java.util.Random;
import java.util.zip.DataFormatException;
import java.util.zip.Deflater;
import java.util.zip.GZIPInputStream;
import java.util.zip.Inflater;

/** Promises 6 and 7 against another program of the same published form: the Java library's. */
public final class ZipTest {
    private static final Checks C = new Checks("ZipTest");

    public static void main(String[] args) throws Exception {
        Random random = new Random(7);
        for (int i = 0; i < 400; i++) {
            byte[] data = new byte[random.nextInt(301)];
            int values = 1 + random.nextInt(random.nextBoolean() ? 5 : 256);
            for (int p = 0; p < data.length; p++) {
                data[p] = (byte) random.nextInt(values);
            }
            packed(data, random);
            opened(data);
        }
        C.end();
    }

    private static void packed(byte[] data, Random random) throws Exception {
        DeflateBlocks x = Checks.withData(data);
        for (int n = random.nextInt(3); n > 0; n--) {
            x.cutAt(1 + random.nextInt(299));
        }
        for (int level = 0; level < 4; level++) {
            for (int frame = 0; frame < 3; frame++) {
                if (x.pack(frame, level) == DeflateBlocks.ROOM) {
                    continue;
                }
                byte[] tape = Checks.tapeOf(x);
                byte[] got = frame < 2 ? inflate(tape, frame == 0)
                        : new GZIPInputStream(new ByteArrayInputStream(tape)).readAllBytes();
                C.holds("the library opens frame " + frame + " level " + level, Arrays.equals(data, got));
            }
        }
    }

    private static byte[] inflate(byte[] tape, boolean isRaw) throws DataFormatException {
        Inflater inflater = new Inflater(isRaw);
        inflater.setInput(tape);
        byte[] row = new byte[400];
        int n = inflater.inflate(row);
        C.holds("the library is at the end", inflater.finished() && inflater.getRemaining() == 0);
        inflater.end();
        return Arrays.copyOf(row, n);
    }

    private static void opened(byte[] data) {
        for (int level : new int[] {0, 1, 6, 9}) {
            for (int strategy : new int[] {Deflater.DEFAULT_STRATEGY, Deflater.FILTERED, Deflater.HUFFMAN_ONLY}) {
                for (int frame = 0; frame < 2; frame++) {
                    Deflater deflater = new Deflater(level, frame == 0);
                    deflater.setStrategy(strategy);
                    deflater.setInput(data);
                    deflater.finish();
                    byte[] tape = new byte[1000];
                    int n = 0;
                    while (!deflater.finished()) {
                        n += deflater.deflate(tape, n, tape.length - n);
                    }
                    deflater.end();
                    if (n <= 400) {
                        DeflateBlocks x = Checks.withTape(Arrays.copyOf(tape, n));
                        C.due("open", x.open(frame), data.length);
                        C.holds("the same bytes", Arrays.equals(data, Checks.dataOf(x)));
                    }
                }
            }
        }
    }
}
