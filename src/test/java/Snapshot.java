import java.util.Arrays;

/**
 * All that an object tells of itself, so that one moment can be held against another. CUTS show in
 * the steps as far as they stand below the number of bytes; Sample.cutsStay() asks for all of them.
 */
final class Snapshot {
    private static final int[] LAST = {285, 29, 18};

    private final String data;
    private final String steps;
    private final String tape;
    private final String blocks;
    private final String widths;
    private final int place;

    Snapshot(DeflateBlocks x) {
        data = Arrays.toString(Checks.dataOf(x)) + x.sum(0) + " " + x.sum(1);
        steps = stepsOf(x);
        tape = Arrays.toString(Checks.tapeOf(x));
        blocks = blocksOf(x);
        widths = widthsOf(x);
        place = x.place();
    }

    private static String stepsOf(DeflateBlocks x) {
        StringBuilder s = new StringBuilder().append(x.steps());
        for (int i = 0; i <= x.steps(); i++) {
            s.append(Arrays.toString(Checks.step(x, i)));
        }
        return s.toString();
    }

    private static String blocksOf(DeflateBlocks x) {
        StringBuilder s = new StringBuilder();
        for (int i = 0; i == 0 || x.block(i - 1, 0) != DeflateBlocks.NONE; i++) {
            s.append(Arrays.toString(Checks.block(x, i)));
        }
        return s.toString();
    }

    private static String widthsOf(DeflateBlocks x) {
        StringBuilder s = new StringBuilder();
        for (int which = 0; which < LAST.length; which++) {
            for (int i = 0; i <= LAST[which]; i++) {
                s.append(x.width(which, i)).append(' ');
            }
        }
        return s.toString();
    }

    void stays(Checks c, String what, DeflateBlocks x) {
        c.due(what + ", place() behind it", x.place(), place);
        staysButForPlace(c, what, x);
    }

    void staysButForPlace(Checks c, String what, DeflateBlocks x) {
        Snapshot now = new Snapshot(x);
        c.same(what + ", DATA behind it", now.data, data);
        c.same(what + ", steps behind it", now.steps, steps);
        c.same(what + ", THE TAPE behind it", now.tape, tape);
        c.same(what + ", BLOCKS behind it", now.blocks, blocks);
        c.same(what + ", widths behind it", now.widths, widths);
    }
}
