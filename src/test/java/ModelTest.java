import java.util.ArrayList;
import java.util.Arrays;
import java.util.Collections;
import java.util.List;
import java.util.Random;
import java.util.Set;
import java.util.TreeSet;

/** Promises 6 to 12 on many rows, held against the Model. */
public final class ModelTest {
    private static final Checks C = new Checks("ModelTest");
    private static int refused;
    private static final int[] faults = new int[16];

    public static void main(String[] args) {
        Random random = new Random(20261116);
        for (int i = 0; i < 1500; i++) {
            int[] data = row(random, i);
            Set<Integer> cuts = new TreeSet<>();
            DeflateBlocks x = new DeflateBlocks();
            for (int n = random.nextInt(3); n > 0; n--) {
                int cut = 1 + random.nextInt(random.nextBoolean() ? 299 : data.length + 1);
                if (cut <= 299) {
                    cuts.add(cut);
                    C.due("cutAt", x.cutAt(cut), cuts.size());
                }
            }
            for (int v : data) {
                x.octet(v);
            }
            steps(x, data, cuts);
            for (int level = 0; level < 4; level++) {
                packed(x, data, cuts, (i + level) % 3, level);
                damaged(x, (i + level) % 3, random);
            }
        }
        for (int i = 0; i < 1500; i++) {
            noise(random);
        }
        C.holds("ROOM was met", refused > 0);
        C.holds("numbers of the WIDTH CODE were halved", Model.halvings > 0);
        for (int fault = 1; fault < 16; fault++) {
            C.holds("FAULT " + fault + " was met", faults[fault] > 0);
        }
        System.out.println("ModelTest: ROOM " + refused + ", halved " + Model.halvings + ", FAULTS "
                + Arrays.toString(faults));
        C.end();
    }

    /** Numbers of each value that are powers of two: rows of many widths, told by wide words. */
    private static int[] skewed(Random random) {
        List<Integer> all = new ArrayList<>();
        while (all.size() < 255) {
            int value = random.nextInt(256);
            int times = 1 << random.nextInt(random.nextInt(3) > 0 ? 3 : 7);
            for (int n = Math.min(times, 255 - all.size()); n > 0; n--) {
                all.add(value);
            }
        }
        Collections.shuffle(all, random);
        return all.stream().mapToInt(v -> v).toArray();
    }

    /** Rows of several sorts: few values, all values, the same again, Fibonacci's numbers of each. */
    private static int[] row(Random random, int i) {
        if (i % 5 == 4) {
            return skewed(random);
        }
        int n = i < 40 ? i / 4 : i % 10 == 0 ? 300 : random.nextInt(301);
        int[] data = new int[n];
        int values = new int[] {1, 2, 3, 10, 60, 256}[random.nextInt(6)];
        int sort = random.nextInt(4);
        int a = 1;
        int b = 1;
        int value = random.nextInt(200);
        int left = 1;
        for (int p = 0; p < n; p++) {
            if (sort == 0 && p > 4 && random.nextInt(3) > 0) {
                data[p] = data[p - 1 - random.nextInt(Math.min(p, 4))];
            } else if (sort == 1) {
                data[p] = value;
                if (--left == 0) {
                    int c = a + b;
                    a = b;
                    b = c;
                    left = a;
                    value++;
                }
            } else {
                data[p] = random.nextInt(values);
            }
        }
        if (sort == 1) {
            for (int p = n - 1; p > 0; p--) {
                int q = random.nextInt(p + 1);
                int v = data[p];
                data[p] = data[q];
                data[q] = v;
            }
        }
        return data;
    }

    private static void steps(DeflateBlocks x, int[] data, Set<Integer> cuts) {
        int i = 0;
        for (int[] step : Model.steps(data, cuts)) {
            for (int what = 0; what < 3; what++) {
                C.due("step", x.step(i, what), step[what]);
            }
            i++;
        }
        C.due("steps", x.steps(), i);
        C.due("step behind the last", x.step(i, 0), -1);
    }

    private static void packed(DeflateBlocks x, int[] data, Set<Integer> cuts, int frame, int level) {
        Model m = Model.pack(data, cuts, frame, level);
        byte[] want = m.bytes();
        byte[] before = Checks.tapeOf(x);
        int got = x.pack(frame, level);
        if (want.length > 400) {
            refused++;
            C.due("pack", got, -3);
            C.holds("THE TAPE stays", Arrays.equals(before, Checks.tapeOf(x)));
            return;
        }
        C.due("pack", got, want.length);
        C.holds("THE TAPE", Arrays.equals(want, Checks.tapeOf(x)));
        told(x, m);
        Model opened = Model.open(want, frame);
        C.due("what is packed can be opened", opened.fault, 0);
        C.due("its bytes", opened.data.size(), data.length);
    }

    private static void told(DeflateBlocks x, Model m) {
        for (int i = 0; i < m.blocks.size(); i++) {
            for (int what = 0; what < 5; what++) {
                C.due("block", x.block(i, what), m.blocks.get(i)[what]);
            }
        }
        C.due("block behind the last", x.block(m.blocks.size(), 0), -1);
        for (int which = 0; which < 3; which++) {
            for (int s = 0; s < new int[] {286, 30, 19}[which]; s++) {
                C.due("width", x.width(which, s), m.widths == null ? -1 : m.widths[which][s]);
            }
        }
    }

    /** The latest tape with some bits changed, cut short or made longer, by any FRAME. */
    private static void damaged(DeflateBlocks x, int frame, Random random) {
        byte[] tape = Checks.tapeOf(x);
        for (int n = random.nextInt(3); n > 0 && tape.length > 0; n--) {
            int bit = random.nextInt(random.nextBoolean() ? Math.min(160, tape.length * 8) : tape.length * 8);
            tape[bit / 8] ^= (byte) (1 << bit % 8);
        }
        int length = random.nextInt(5) > 0 ? tape.length : random.nextInt(Math.min(400, tape.length + 3) + 1);
        opened(Arrays.copyOf(tape, length), random.nextInt(10) > 0 ? frame : random.nextInt(3));
    }

    private static void noise(Random random) {
        byte[] tape = new byte[random.nextInt(120)];
        random.nextBytes(tape);
        if (tape.length > 0) {
            tape[0] = (byte) (tape[0] & 248 | 2 * (1 + random.nextInt(2)));
        }
        opened(tape, 0);
    }

    private static void opened(byte[] tape, int frame) {
        Model m = Model.open(tape, frame);
        DeflateBlocks x = Checks.withTape(tape);
        x.octet(77);
        int got = x.open(frame);
        faults[m.fault]++;
        C.due("open", got, m.fault == 0 ? m.data.size() : -10 - m.fault);
        C.due("place", x.place(), m.fault == 0 ? -1 : m.place);
        byte[] data = Checks.dataOf(x);
        if (m.fault != 0) {
            C.holds("DATA stay", data.length == 1 && data[0] == 77);
            C.due("block", x.block(0, 0), -1);
            return;
        }
        for (int i = 0; i < m.data.size(); i++) {
            C.due("at", x.at(i), m.data.get(i));
        }
        told(x, m);
    }
}
