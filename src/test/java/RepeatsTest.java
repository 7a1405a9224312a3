/** Part 3, REPEATS and CUTS, and promises 11 and 12 that tell them. */
public final class RepeatsTest {
    private static final int NONE = -1;
    private static final Checks C = new Checks("RepeatsTest");

    public static void main(String[] args) {
        shortest();
        longest();
        runningIntoThemselves();
        longestAheadOfLatest();
        latestOfEquals();
        fromTheBeginOn();
        noneBeyondABlock();
        fromEarlierBlocks();
        cutsBelowTheNumberOfBytes();
        cutsOfNoData();
        cutsInAnyOrder();
        followDataAndCuts();
        C.end();
    }

    private static void steps(String what, DeflateBlocks x, int[]... want) {
        C.due(what + ", steps", x.steps(), want.length);
        for (int i = 0; i < want.length; i++) {
            C.row(what + ", step " + i, Checks.step(x, i), want[i]);
        }
        C.row(what + ", no step more", Checks.step(x, want.length), NONE, NONE, NONE);
    }

    private static int[] at(int place, int length, int distance) {
        return new int[] {place, length, distance};
    }

    private static void shortest() {
        steps("two bytes again", Checks.withData("abXab"),
                at(0, 1, 'a'), at(1, 1, 'b'), at(2, 1, 'X'), at(3, 1, 'a'), at(4, 1, 'b'));
        steps("three bytes again", Checks.withData("abcabc"),
                at(0, 1, 'a'), at(1, 1, 'b'), at(2, 1, 'c'), at(3, 3, 3));
        steps("three equals", Checks.withData("aaa"), at(0, 1, 'a'), at(1, 1, 'a'), at(2, 1, 'a'));
        steps("four equals", Checks.withData("aaaa"), at(0, 1, 'a'), at(1, 3, 1));
    }

    private static void longest() {
        steps("258 equals", Checks.withData(Sample.equals(258, 7)), at(0, 1, 7), at(1, 257, 1));
        steps("259 equals", Checks.withData(Sample.equals(259, 7)), at(0, 1, 7), at(1, 258, 1));
        steps("260 equals", Checks.withData(Sample.equals(260, 7)), at(0, 1, 7), at(1, 258, 1), at(259, 1, 7));
        steps("261 equals", Checks.withData(Sample.equals(261, 7)),
                at(0, 1, 7), at(1, 258, 1), at(259, 1, 7), at(260, 1, 7));
        steps("262 equals", Checks.withData(Sample.equals(262, 7)), at(0, 1, 7), at(1, 258, 1), at(259, 3, 1));
        steps("300 equals", Checks.withData(Sample.equals(300, 7)), at(0, 1, 7), at(1, 258, 1), at(259, 41, 1));
    }

    private static void runningIntoThemselves() {
        steps("two and again", Checks.withData("ababababa"), at(0, 1, 'a'), at(1, 1, 'b'), at(2, 7, 2));
        steps("three and again", Checks.withData("abcabcab"),
                at(0, 1, 'a'), at(1, 1, 'b'), at(2, 1, 'c'), at(3, 5, 3));
    }

    private static void longestAheadOfLatest() {
        DeflateBlocks x = Checks.withData("abcd1abc2abcd");
        C.row("three, the longest there", Checks.step(x, 5), 5, 3, 5);
        C.row("four, farther back than three", Checks.step(x, 7), 9, 4, 9);
    }

    private static void latestOfEquals() {
        DeflateBlocks x = Checks.withData("abc1abc2abc");
        C.row("the latest of two", Checks.step(x, 6), 8, 3, 4);
        DeflateBlocks y = Checks.withData("abcd1abc2abc3abc4");
        C.row("the latest of three, one of them of four", Checks.step(y, 9), 13, 3, 4);
        // 258 are the most, so that the farther one is no longer than the nearer one.
        DeflateBlocks z = Checks.withData(Sample.equals(300, 5));
        C.row("the latest of those that could go on", Checks.step(z, 1), 1, 258, 1);
    }

    /** Each place takes what is longest there, though one behind it could take more. */
    private static void fromTheBeginOn() {
        steps("three, though four begin one later", Checks.withData("abc1bcde2abcde"),
                at(0, 1, 'a'), at(1, 1, 'b'), at(2, 1, 'c'), at(3, 1, '1'), at(4, 1, 'b'), at(5, 1, 'c'),
                at(6, 1, 'd'), at(7, 1, 'e'), at(8, 1, '2'), at(9, 3, 9), at(12, 1, 'd'), at(13, 1, 'e'));
    }

    private static DeflateBlocks cut(String data, int... cuts) {
        DeflateBlocks x = Checks.withData(data);
        for (int cut : cuts) {
            x.cutAt(cut);
        }
        return x;
    }

    private static void noneBeyondABlock() {
        steps("up to the CUT", cut("abcdabcdab", 7), at(0, 1, 'a'), at(1, 1, 'b'), at(2, 1, 'c'), at(3, 1, 'd'),
                at(4, 3, 4), at(7, 3, 4));
        steps("two up to the CUT are none", cut("abcdabcdab", 6), at(0, 1, 'a'), at(1, 1, 'b'), at(2, 1, 'c'),
                at(3, 1, 'd'), at(4, 1, 'a'), at(5, 1, 'b'), at(6, 4, 4));
        steps("two behind the CUT are none", cut("abcdabcdab", 8), at(0, 1, 'a'), at(1, 1, 'b'), at(2, 1, 'c'),
                at(3, 1, 'd'), at(4, 4, 4), at(8, 1, 'a'), at(9, 1, 'b'));
        // Up to the CUT both are of three, so the latest one is taken, though the first goes on.
        DeflateBlocks x = cut("abcd1abc2abcd", 12);
        C.row("longest only up to the CUT", Checks.step(x, 7), 9, 3, 4);
        DeflateBlocks y = Checks.withData(Sample.equals(300, 7));
        y.cutAt(299);
        y.cutAt(3);
        steps("300 equals with CUTS", y, at(0, 1, 7), at(1, 1, 7), at(2, 1, 7), at(3, 258, 1), at(261, 38, 1),
                at(299, 1, 7));
    }

    private static void fromEarlierBlocks() {
        steps("from the BLOCK before", cut("abcabc", 3), at(0, 1, 'a'), at(1, 1, 'b'), at(2, 1, 'c'), at(3, 3, 3));
        steps("from the BLOCK before into its own", cut("aaaaaa", 2), at(0, 1, 'a'), at(1, 1, 'a'), at(2, 4, 1));
        steps("from the BLOCK two before", cut("abc12abc", 3, 5), at(0, 1, 'a'), at(1, 1, 'b'), at(2, 1, 'c'),
                at(3, 1, '1'), at(4, 1, '2'), at(5, 3, 5));
    }

    private static void blocks(String what, DeflateBlocks x, int[]... want) {
        for (int level = 0; level < 4; level++) {
            x.pack(0, level);
            for (int i = 0; i < want.length; i++) {
                C.row(what + ", BLOCK " + i, new int[] {x.block(i, 1), x.block(i, 2)}, want[i]);
            }
            C.due(what + ", no BLOCK more", x.block(want.length, 1), NONE);
        }
    }

    private static int[] of(int place, int bytes) {
        return new int[] {place, bytes};
    }

    private static void cutsBelowTheNumberOfBytes() {
        blocks("a CUT at the last byte", cut("xyz", 2), of(0, 2), of(2, 1));
        blocks("a CUT at the number of bytes", cut("xyz", 3), of(0, 3));
        blocks("a CUT beyond it", cut("xyz", 4), of(0, 3));
        blocks("two CUTS beyond it", cut("xyz", 3, 299), of(0, 3));
        blocks("one of two beyond it", cut("xyz", 299, 1), of(0, 1), of(1, 2));
        blocks("bytes one by one", cut("xyz", 1, 2), of(0, 1), of(1, 1), of(2, 1));
        DeflateBlocks x = Checks.withData(Sample.equals(299, 7));
        x.cutAt(299);
        blocks("CUT 299 of 299 bytes", x, of(0, 299));
        x.octet(7);
        blocks("CUT 299 of 300 bytes", x, of(0, 299), of(299, 1));
    }

    private static void cutsOfNoData() {
        blocks("no DATA", new DeflateBlocks(), of(0, 0));
        blocks("no DATA with CUTS", cut("", 1, 299), of(0, 0));
    }

    private static void cutsInAnyOrder() {
        blocks("the lesser one first", cut("abcdef", 2, 5), of(0, 2), of(2, 3), of(5, 1));
        blocks("the greater one first", cut("abcdef", 5, 2), of(0, 2), of(2, 3), of(5, 1));
    }

    private static void followDataAndCuts() {
        DeflateBlocks x = Checks.withData("abab");
        C.due("two are no run", x.steps(), 4);
        x.octet('a');
        C.due("steps() behind octet()", x.steps(), 3);
        C.row("step 2", Checks.step(x, 2), 2, 3, 2);
        x.cutAt(4);
        C.due("steps() behind cutAt()", x.steps(), 5);
        x.pack(0, 1);
        C.due("steps() behind pack()", x.steps(), 5);
        x.open(0);
        C.due("steps() behind open(), without the CUT", x.steps(), 3);
        x.empty();
        C.due("steps() behind empty()", x.steps(), 0);
        C.row("no step", Checks.step(x, 0), NONE, NONE, NONE);
    }
}
