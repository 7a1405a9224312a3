import java.util.ArrayList;
import java.util.HashSet;
import java.util.List;
import java.util.Set;

/** Part 3, OWN CODES of KIND 2: widths by joining, the row of widths and the WIDTH CODE. */
public final class OwnCodesTest {
    private static final Checks C = new Checks("OwnCodesTest");

    public static void main(String[] args) {
        noByteAtAll();
        oneByte();
        oneRepeatAlone();
        noDistance();
        wordsOfDistances();
        numbersOfEachBlock();
        joining();
        equalsThatCameEarlier();
        symbolsAheadOfJoinedOnes();
        upToTheLastSymbol();
        upToTheLastDistance();
        zerosInTheRow();
        sameWidthsInTheRow();
        sameWidthsAcross();
        sameWidthsUpToTheEnd();
        fewestRowWidths();
        widthAbove7();
        widthOfJust7();
        C.end();
    }

    private static DeflateBlocks packed(DeflateBlocks x) {
        x.pack(0, 2);
        return x;
    }

    private static void widths(String what, DeflateBlocks x, int which, int... pairs) {
        int[] last = {285, 29, 18};
        int[] want = Bits.widths(last[which] + 1, pairs);
        for (int s = 0; s < want.length; s++) {
            C.due(what + ", width(" + which + ", " + s + ")", x.width(which, s), want[s]);
        }
    }

    private static void noByteAtAll() {
        DeflateBlocks x = packed(new DeflateBlocks());
        widths("no byte", x, 0, 0, 1, 256, 1);
        widths("no byte", x, 1);
        // 1 twice, 18 twice, 0 once: 0 and 1 are joined, then 18 and both.
        widths("no byte", x, 2, 0, 2, 1, 2, 18, 1);
        C.same("no byte, its row", new Told(x, 0).row, "1 18:127 18:106 1 0");
        C.due("its bits", x.block(0, 4), 3 + 14 + 18 * 3 + 2 + 8 + 8 + 2 + 2 + 1);
    }

    private static void oneByte() {
        DeflateBlocks x = packed(Checks.withData(255));
        widths("one byte", x, 0, 255, 1, 256, 1);
        widths("one byte", x, 1);
        C.same("one byte, its row", new Told(x, 0).row, "18:127 18:106 1 1 0");
        // 0 once itself: no other 0 is made up.
        widths("the byte 0", packed(Checks.withData(0)), 0, 0, 1, 256, 1);
        widths("the byte 0 twice", packed(Checks.withData(0, 0, 1)), 0, 0, 1, 1, 2, 256, 2);
    }

    private static void oneRepeatAlone() {
        DeflateBlocks x = Checks.withData("abcdabc");
        x.cutAt(4);
        packed(x);
        widths("a REPEAT alone", x, 0, 256, 1, 257, 1);
        widths("a REPEAT alone", x, 1, 3, 1);
        C.due("its bits", x.block(1, 4) - ownBits(x, 1), 1 + 1 + 1);
    }

    /** Bits of a BLOCK of KIND 2 up to its words. */
    private static int ownBits(DeflateBlocks x, int block) {
        Told told = new Told(x, block);
        int bits = 3 + 14 + 3 * (told.c + 4);
        for (String s : told.row.split(" ")) {
            int symbol = Integer.parseInt(s.split(":")[0]);
            bits += x.width(2, symbol) + (symbol == 16 ? 2 : symbol == 17 ? 3 : symbol == 18 ? 7 : 0);
        }
        return bits;
    }

    private static void noDistance() {
        DeflateBlocks x = packed(Checks.withData("ab"));
        widths("no DISTANCE", x, 1);
        Told told = new Told(x, 0);
        C.due("k", told.k, 0);
        C.holds("one width of 0 at the row's end", told.row.endsWith(" 0"));
    }

    /** 256 and 257, DISTANCES 0 and 1 have words of one bit. */
    private static void wordsOfDistances() {
        DeflateBlocks x = packed(twoRepeats());
        int end = x.block(1, 3) + x.block(1, 4);
        StringBuilder words = new StringBuilder();
        for (int bit = end - 5; bit < end; bit++) {
            words.append(x.tape(bit / 8) >> bit % 8 & 1);
        }
        C.same("257, 2 back; 257, 1 back; 256", words.toString(), "11100");
        C.due("open", x.open(0), 8);
    }

    /** A BLOCK of bytes, and one of two REPEATS of LENGTH 3: of 2 back, of 1 back. */
    private static DeflateBlocks twoRepeats() {
        DeflateBlocks x = Checks.withData("ababaaaa");
        x.cutAt(2);
        C.row("a REPEAT of 2 back", Checks.step(x, 2), 2, 3, 2);
        C.row("a REPEAT of 1 back", Checks.step(x, 3), 5, 3, 1);
        return x;
    }

    private static void numbersOfEachBlock() {
        DeflateBlocks x = Checks.withData("aaaabcdefabcdef");
        x.cutAt(9);
        C.row("a REPEAT in the first BLOCK", Checks.step(x, 1), 1, 3, 1);
        C.row("a REPEAT in the last BLOCK", Checks.step(x, 7), 9, 6, 6);
        packed(x);
        widths("the last BLOCK", x, 0, 256, 1, 260, 1);
        widths("the last BLOCK", x, 1, 4, 1);
    }

    private static void joining() {
        // a four times, b twice, c once and 256 once.
        widths("4, 2, 1, 1", packed(Checks.withData("aabacab")), 0, 'a', 1, 'b', 2, 'c', 3, 256, 3);
        // DISTANCE 0 once, DISTANCE 1 twice.
        DeflateBlocks x = packed(Checks.withData("aaaabababcbcbcb"));
        C.row("step 1", Checks.step(x, 1), 1, 3, 1);
        C.row("step 3", Checks.step(x, 3), 5, 4, 2);
        C.row("step 5", Checks.step(x, 5), 10, 5, 2);
        widths("two DISTANCES", x, 1, 0, 1, 1, 1);
    }

    private static void equalsThatCameEarlier() {
        // a, b, c, 256, 257 once each: a and b, c and 256, then 257 and the one of a and b.
        DeflateBlocks x = packed(Checks.withData("abcabc"));
        widths("five equals", x, 0, 'a', 3, 'b', 3, 'c', 2, 256, 2, 257, 2);
        widths("one DISTANCE", x, 1, 2, 1);
        // Six equals: three pairs; the first two of them are joined, the third has one join less.
        widths("six equals", packed(Checks.withData("abcde")), 0, 'a', 3, 'b', 3, 'c', 3, 'd', 3, 'e', 2, 256, 2);
        // a and b make 2; then 256 goes with c, which was there ahead of them.
        widths("1, 1, 1, 2", packed(Checks.withData("abcc")), 0, 'a', 2, 'b', 2, 'c', 2, 256, 2);
    }

    /** Of equal numbers a SYMBOL is taken ahead of what was joined. */
    private static void symbolsAheadOfJoinedOnes() {
        // 2, 2, 1, 1: both 1s make 2; then both SYMBOLS of 2 are joined, not the new one with one.
        widths("2, 2, 1, 1", packed(Checks.withData("aabbc")), 0, 'a', 2, 'b', 2, 'c', 2, 256, 2);
        // c 1, 256 1, a 2, b 3: 2 with 2 makes 4, then 3 and 4.
        widths("2, 3, 1, 1", packed(Checks.withData("abbacb")), 0, 'a', 2, 'b', 1, 'c', 3, 256, 3);
    }

    private static void upToTheLastSymbol() {
        C.due("h of bytes alone", new Told(packed(Checks.withData("ab")), 0).h, 0);
        C.due("h of LENGTH 3", new Told(packed(Checks.withData("aaaa")), 0).h, 1);
        C.due("h of LENGTH 4", new Told(packed(Checks.withData("aaaaa")), 0).h, 2);
        C.due("h of LENGTH 257", new Told(packed(Checks.withData(Sample.equals(258, 1))), 0).h, 28);
        C.due("h of LENGTH 258", new Told(packed(Checks.withData(Sample.equals(259, 1))), 0).h, 29);
    }

    private static void upToTheLastDistance() {
        C.due("k of no DISTANCE", new Told(packed(Checks.withData("ab")), 0).k, 0);
        C.due("k of DISTANCE 0", new Told(packed(Checks.withData("aaaa")), 0).k, 0);
        C.due("k of DISTANCE 1", new Told(packed(Checks.withData("ababa")), 0).k, 1);
        DeflateBlocks x = Checks.withData(Sample.unlike(297));
        for (int v = 0; v < 3; v++) {
            x.octet(v);
        }
        C.row("the last step", Checks.step(x, x.steps() - 1), 297, 3, 297);
        x.cutAt(297);
        packed(x);
        Told told = new Told(x, 1);
        C.due("k of DISTANCE 16", told.k, 16);
        C.same("its row", told.row, "18:127 18:107 1 1 18:5 1");
    }

    /** Two bytes, the first one 0: widths 2, 2 and 1, and 0s between them. */
    private static void zerosInTheRow() {
        zeros(0, "2 2");
        zeros(1, "2 0 2");
        zeros(2, "2 0 0 2");
        zeros(3, "2 17:0 2");
        zeros(4, "2 17:1 2");
        zeros(10, "2 17:7 2");
        zeros(11, "2 18:0 2");
        zeros(12, "2 18:1 2");
        zeros(137, "2 18:126 2");
        zeros(138, "2 18:127 2");
        zeros(139, "2 18:127 0 2");
        zeros(140, "2 18:127 0 0 2");
        zeros(141, "2 18:127 17:0 2");
        zeros(148, "2 18:127 17:7 2");
        zeros(149, "2 18:127 18:0 2");
        zeros(254, "2 18:127 18:105 2");
    }

    private static void zeros(int between, String want) {
        Told told = new Told(packed(Checks.withData(0, 1 + between)), 0);
        C.holds(between + " of 0: " + told.row + ", due is " + want, told.row.startsWith(want + " "));
        C.holds("256 and no DISTANCE: " + told.row, told.row.endsWith(" 1 0"));
    }

    /** Bytes once each, so many from 0 on and others far behind them, all of one width. */
    private static void sameWidthsInTheRow() {
        sameWidths(3, 1, "2 0");
        sameWidths(3, 2, "2 2 0");
        sameWidths(3, 3, "2 2 2 18");
        sameWidths(7, 4, "3 16:0 18");
        sameWidths(7, 5, "3 16:1 18");
        sameWidths(7, 6, "3 16:2 18");
        sameWidths(7, 7, "3 16:3 18");
        sameWidths(15, 8, "4 16:3 4 18");
        sameWidths(15, 9, "4 16:3 4 4 18");
        sameWidths(15, 10, "4 16:3 16:0 18");
        sameWidths(15, 13, "4 16:3 16:3 18");
        sameWidths(15, 14, "4 16:3 16:3 4 18");
    }

    private static void sameWidths(int all, int from0On, String want) {
        int[] bytes = new int[all];
        for (int i = 0; i < all; i++) {
            bytes[i] = i < from0On ? i : all == 3 ? 2 * i : 100 + 2 * i;
        }
        Told told = new Told(packed(Checks.withData(bytes)), 0);
        C.holds(from0On + " of one width: " + told.row + ", due is " + want, told.row.startsWith(want));
    }

    /** SYMBOLS and DISTANCES are one row: 1 of 256, then 1 of 257, DISTANCES 0 and 1 by one 16. */
    private static void sameWidthsAcross() {
        DeflateBlocks x = packed(twoRepeats());
        C.same("its row", new Told(x, 1).row, "18:127 18:107 1 16:0");
        widths("across", x, 2, 1, 2, 16, 2, 18, 1);
        C.due("bits", x.block(1, 4), 3 + 14 + 3 * 18 + 2 * 8 + 2 + 4 + 5);
    }

    /** Three of width 1 are the row's last; behind them the row before had one more. */
    private static void sameWidthsUpToTheEnd() {
        DeflateBlocks x = packed(twoRepeats());
        x.empty();
        for (int n = 0; n < 4; n++) {
            x.octet('a');
        }
        x.cutAt(1);
        packed(x);
        C.same("its row", new Told(x, 1).row, "18:127 18:107 1 1 1");
    }

    /** c + 4 go up to the last SYMBOL that is there, in the row 16 17 18 0 8 7 9 and so on. */
    private static void fewestRowWidths() {
        int[] all = new int[255];
        for (int i = 0; i < all.length; i++) {
            all[i] = i;
        }
        Told told = new Told(packed(Checks.withData(all)), 0);
        C.due("c of 8 alone", told.c, 1);
        C.holds("its row: " + told.row, told.row.startsWith("8 16:3 16:3") && told.row.endsWith(" 0 8 0"));
        C.due("c with 1", new Told(packed(Checks.withData("a")), 0).c, 14);
        C.due("c with 2, no 1", new Told(packed(Checks.withData("abc")), 0).c, 12);
        C.due("c with 3, no 2 or 1", new Told(packed(Checks.withData("abcdefg")), 0).c, 10);
    }

    /**
     * Widths 2, 3, 4 once, 5 three times, 6 four times, 7 seven times; 8 else. In the row 0 is told
     * 18 times alone and by 18 11 times, 16 and 17 never. Each of the numbers 1 1 1 3 4 7 11 18 90
     * is joined with all those before it, so that the first would have width 8. Their halves are
     * 1 1 1 2 2 4 6 9 45.
     */
    private static void widthAbove7() {
        DeflateBlocks x = packed(rowOf(90, 2, 3, 4, 5, 5, 5, 6, 6, 6, 6, 7, 7, 7, 7, 7, 7, 7));
        widths("halved", x, 2, 0, 3, 2, 5, 3, 5, 4, 5, 5, 5, 6, 4, 7, 4, 8, 1, 18, 3);
        C.due("SYMBOL 256", x.width(0, 256), 8);
        x.empty();
        C.due("open", x.open(0), 255);
    }

    /** With 6 three times, too, the numbers 3 and 3 are joined with one another: 7 is the widest. */
    private static void widthOfJust7() {
        DeflateBlocks x = packed(rowOf(94, 2, 3, 4, 5, 5, 5, 6, 6, 6, 7, 7, 7, 7, 7, 7, 7));
        widths("not halved", x, 2, 0, 2, 2, 7, 3, 7, 4, 6, 5, 6, 6, 6, 7, 4, 8, 1, 18, 3);
    }

    /**
     * DATA without REPEATS whose bytes have these widths, and so many of them and 256 width 8: not
     * more than three of these stand side by side, and between them the others, 17 0s alone (one
     * more is that of no DISTANCE) and 11 rows of 11 0s or a few more.
     */
    private static DeflateBlocks rowOf(int eights, int... others) {
        int alone = others.length + 17;
        int between = alone + 11;
        int zeros = 257 - eights - alone;
        List<Integer> row = new ArrayList<>();
        for (int i = 0; i <= between; i++) {
            add(row, share(eights, between + 1, i), 8);
            if (i < alone) {
                add(row, 1, i < others.length ? others[i] : 0);
            } else if (i < between) {
                add(row, share(zeros, 11, i - alone), 0);
            }
        }
        DeflateBlocks x = withoutRepeats(row);
        C.due("steps of bytes alone", x.steps(), 255);
        return x;
    }

    private static void add(List<Integer> row, int times, int width) {
        for (int n = 0; n < times; n++) {
            row.add(width);
        }
    }

    private static int share(int all, int parts, int i) {
        return all * (i + 1) / parts - all * i / parts;
    }

    /** Each byte 2^(8 - width) times, the one of which most are left first, no three twice. */
    private static DeflateBlocks withoutRepeats(List<Integer> widths) {
        int[] left = new int[256];
        for (int v = 0; v < 256; v++) {
            left[v] = widths.get(v) == 0 ? 0 : 1 << 8 - widths.get(v);
        }
        DeflateBlocks x = new DeflateBlocks();
        Set<List<Integer>> threes = new HashSet<>();
        int before = -1;
        int last = -1;
        for (int n = 0; n < 255; n++) {
            int best = -1;
            for (int v = 0; v < 256; v++) {
                if (left[v] > 0 && !threes.contains(List.of(before, last, v)) && (best < 0 || left[v] > left[best])) {
                    best = v;
                }
            }
            threes.add(List.of(before, last, best));
            left[best]--;
            x.octet(best);
            before = last;
            last = best;
        }
        return x;
    }
}
