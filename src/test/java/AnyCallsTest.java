import java.util.Random;

/** Any calls in any order: none throws, and the same calls give the same answers. */
public final class AnyCallsTest {
    private static final Checks C = new Checks("AnyCallsTest");

    public static void main(String[] args) {
        for (int seed = 0; seed < 3000; seed++) {
            long once = answers(seed);
            C.due("run " + seed, answers(seed), once);
        }
        C.end();
    }

    private static long answers(int seed) {
        Random random = new Random(seed);
        DeflateBlocks x = new DeflateBlocks();
        long all = 0;
        int tapeBias = random.nextInt(20);
        for (int i = 0; i < 512; i++) {
            int call = random.nextInt(36);
            if (call >= 16) {
                call = call - 16 < tapeBias ? 15 : 0;
            }
            try {
                all = all * 31 + answer(x, call, number(random), number(random));
            } catch (RuntimeException e) {
                C.holds("run " + seed + ", call " + call + " threw " + e, false);
                return all;
            }
        }
        return all;
    }

    private static int number(Random random) {
        switch (random.nextInt(8)) {
            case 0:
                return random.nextInt();
            case 1:
                return new int[] {-1, 299, 300, 301, 399, 400, 401, Integer.MIN_VALUE, Integer.MAX_VALUE}[
                        random.nextInt(9)];
            case 2:
                return random.nextInt(420);
            case 3:
                return random.nextInt(256);
            default:
                return random.nextInt(5);
        }
    }

    private static int answer(DeflateBlocks x, int call, int a, int b) {
        switch (call) {
            case 0: return x.octet(a);
            case 1: return a % 5 == 0 ? x.empty() : x.steps();
            case 2: return x.cutAt(a);
            case 3: return x.at(a);
            case 4: return x.pack(a, b);
            case 5: return x.open(a);
            case 6: return x.place();
            case 7: return x.block(a, b);
            case 8: return x.width(a, b);
            case 9: return x.steps();
            case 10: return x.step(a, b);
            case 11: return x.sum(a);
            case 12: return x.tape(a);
            case 13: return x.flip(a, b);
            case 14: return x.keep(a);
            default: return x.more(a);
        }
    }
}
