import java.util.Arrays;
import java.util.List;

/** What a BLOCK of KIND 2 on a tape tells of its CODES, read by a reader of the tests' own. */
final class Told {
    final int h;
    final int k;
    final int c;
    /** What tells the row of widths, as "8 16:3 0 17:7 18:127", a FIELD behind its SYMBOL. */
    final String row;
    private final byte[] tape;
    private int bit;

    Told(DeflateBlocks x, int block) {
        tape = Checks.tapeOf(x);
        bit = x.block(block, 3) + 3;
        h = field(5);
        k = field(5);
        c = field(4);
        int[] widths = new int[19];
        for (int i = 0; i < c + 4; i++) {
            widths[Model.ORDER[i]] = field(3);
        }
        row = row(Arrays.asList(Model.words(widths)), h + 257 + k + 1);
    }

    private int field(int w) {
        int v = 0;
        for (int i = 0; i < w; i++) {
            v |= (tape[bit / 8] >> bit % 8 & 1) << i;
            bit++;
        }
        return v;
    }

    private int symbol(List<String> words) {
        String word = "";
        while (!words.contains(word)) {
            word += field(1);
        }
        return words.indexOf(word);
    }

    private String row(List<String> words, int total) {
        StringBuilder text = new StringBuilder();
        int told = 0;
        while (told < total) {
            int s = symbol(words);
            int field = s == 16 ? field(2) : s == 17 ? field(3) : s == 18 ? field(7) : 0;
            told += s < 16 ? 1 : s == 18 ? 11 + field : 3 + field;
            text.append(text.length() > 0 ? " " : "").append(s).append(s < 16 ? "" : ":" + field);
        }
        return text.toString();
    }
}
