import java.util.zip.Adler32;
import java.util.zip.CRC32;

/** Promises 1 to 17, one after the other: the bounds of each call, and one beyond each of them. */
public final class CallsTest {
    private static final int NONE = -1, OUTSIDE = -2, ROOM = -3;
    private static final Checks C = new Checks("CallsTest");

    public static void main(String[] args) {
        newObject();
        newObjectPacked();
        octet();
        empty();
        emptyLeavesTheRest();
        cutAt();
        at();
        pack();
        packJust400();
        open();
        openJust300();
        openTakesCutsAway();
        place();
        block();
        blockOfNone();
        blockOfTheLatest();
        width();
        widthOfNone();
        steps();
        step();
        sum();
        tape();
        flip();
        keep();
        more();
        C.end();
    }

    /** Numbers out of the bounds: next to them, alike in their lowest bits, and as far as can be. */
    private static int[] beyond(int least, int greatest) {
        return new int[] {
            least - 1, greatest + 1, least - 256, greatest + 256, 65536 + least, Integer.MIN_VALUE,
            Integer.MIN_VALUE + greatest, Integer.MAX_VALUE - least, Integer.MAX_VALUE
        };
    }

    private static DeflateBlocks made() {
        return new DeflateBlocks();
    }

    private static void newObject() {
        C.due("octet(0)", made().octet(0), 1);
        C.due("empty()", made().empty(), 0);
        C.due("cutAt(1)", made().cutAt(1), 1);
        C.due("at(0)", made().at(0), NONE);
        C.due("place()", made().place(), NONE);
        for (int what = 0; what < 5; what++) {
            C.due("block(0, " + what + ")", made().block(0, what), NONE);
        }
        C.due("width(0, 0)", made().width(0, 0), NONE);
        C.due("width(1, 0)", made().width(1, 0), NONE);
        C.due("width(2, 0)", made().width(2, 0), NONE);
        C.due("steps()", made().steps(), 0);
        for (int what = 0; what < 3; what++) {
            C.due("step(0, " + what + ")", made().step(0, what), NONE);
        }
        C.due("sum(0)", made().sum(0), 1);
        C.due("sum(1)", made().sum(1), 0);
        C.due("tape(0)", made().tape(0), NONE);
        C.due("flip(0, 0)", made().flip(0, 0), OUTSIDE);
        C.due("keep(0)", made().keep(0), 0);
        C.due("keep(1)", made().keep(1), OUTSIDE);
        C.due("more(0)", made().more(0), 1);
    }

    private static void newObjectPacked() {
        int[] bytes = {5, 2, 12, 2};
        int[] ofFrame = {0, 6, 18};
        for (int frame = 0; frame < 3; frame++) {
            C.due("open(" + frame + ")", made().open(frame), -11);
            for (int level = 0; level < 4; level++) {
                DeflateBlocks x = made();
                C.due("pack(" + frame + ", " + level + ")", x.pack(frame, level), bytes[level] + ofFrame[frame]);
                C.due("open of it", x.open(frame), 0);
            }
        }
    }

    private static void octet() {
        DeflateBlocks x = made();
        C.due("octet(0)", x.octet(0), 1);
        C.due("octet(255)", x.octet(255), 2);
        for (int v : beyond(0, 255)) {
            C.due("octet(" + v + ")", x.octet(v), OUTSIDE);
        }
        for (int n = 3; n <= 300; n++) {
            C.due("octet, the one of number " + n, x.octet(n % 256), n);
        }
        C.due("octet(0) behind 300", x.octet(0), ROOM);
        C.due("octet(255) behind 300", x.octet(255), ROOM);
        for (int v : beyond(0, 255)) {
            C.due("octet(" + v + ") behind 300", x.octet(v), OUTSIDE);
        }
    }

    private static void empty() {
        DeflateBlocks x = made();
        C.due("empty() of none", x.empty(), 0);
        x.cutAt(3);
        x.cutAt(4);
        C.due("empty() of CUTS alone", x.empty(), 0);
        C.due("cutAt(5) behind it", x.cutAt(5), 1);
        x.octet(8);
        C.due("empty() of one byte", x.empty(), 1);
        C.due("cutAt(6) behind it", x.cutAt(6), 1);
        for (int v : Sample.equals(300, 9)) {
            x.octet(v);
        }
        x.cutAt(7);
        C.due("steps() ahead of it", x.steps(), 5);
        C.due("empty() of 300 and two CUTS", x.empty(), 300);
        C.due("empty() again", x.empty(), 0);
        C.due("at(0) behind it", x.at(0), NONE);
        C.due("steps() behind it", x.steps(), 0);
        C.due("sum(0) behind it", x.sum(0), 1);
        C.due("octet(9) behind it", x.octet(9), 1);
        C.due("cutAt(8) behind it", x.cutAt(8), 1);
        C.due("cutAt(9) behind it", x.cutAt(9), 2);
    }

    private static void emptyLeavesTheRest() {
        DeflateBlocks x = Sample.small();
        int bytes = Checks.tapeOf(x).length;
        int width = x.width(0, 'a');
        x.empty();
        C.due("place()", x.place(), Sample.PLACE);
        C.due("THE TAPE's last byte", x.tape(bytes), NONE);
        C.row("BLOCK 1", new int[] {x.block(1, 1), x.block(1, 2)}, 7, 13);
        C.due("width(0, 'a')", x.width(0, 'a'), width);
        C.due("open(1)", x.open(1), 20);
    }

    private static void cutAt() {
        DeflateBlocks x = made();
        for (int place : beyond(1, 299)) {
            C.due("cutAt(" + place + ")", x.cutAt(place), OUTSIDE);
        }
        C.due("cutAt(299)", x.cutAt(299), 1);
        C.due("cutAt(299) again", x.cutAt(299), 1);
        C.due("cutAt(1)", x.cutAt(1), 2);
        C.due("cutAt(299) as one of two", x.cutAt(299), 2);
        C.due("cutAt(1) as one of two", x.cutAt(1), 2);
        C.due("cutAt(2)", x.cutAt(2), ROOM);
        C.due("cutAt(298)", x.cutAt(298), ROOM);
        for (int place : beyond(1, 299)) {
            C.due("cutAt(" + place + ") behind two", x.cutAt(place), OUTSIDE);
        }
    }

    private static void at() {
        DeflateBlocks x = Checks.withData(255, 0, 7);
        C.due("at(0)", x.at(0), 255);
        C.due("at(1)", x.at(1), 0);
        C.due("at(2)", x.at(2), 7);
        for (int i : beyond(0, 2)) {
            C.due("at(" + i + ")", x.at(i), NONE);
        }
        DeflateBlocks full = Checks.withData(Sample.unlike(300));
        C.due("at(299)", full.at(299), 92);
        C.due("at(300)", full.at(300), NONE);
        full.empty();
        full.octet(1);
        C.due("at(1) behind one byte, where one was", full.at(1), NONE);
    }

    private static void pack() {
        DeflateBlocks x = Checks.withData("aaaa");
        for (int wrong : beyond(0, 2)) {
            C.due("pack(" + wrong + ", 0)", x.pack(wrong, 0), OUTSIDE);
            C.due("pack(" + wrong + ", 4)", x.pack(wrong, 4), OUTSIDE);
        }
        for (int wrong : beyond(0, 3)) {
            C.due("pack(0, " + wrong + ")", x.pack(0, wrong), OUTSIDE);
            C.due("pack(2, " + wrong + ")", x.pack(2, wrong), OUTSIDE);
        }
        C.due("nothing is packed", x.tape(0), NONE);
        C.due("no BLOCK", x.block(0, 0), NONE);
        C.due("pack(0, 0)", x.pack(0, 0), 9);
        C.due("pack(0, 3)", x.pack(0, 3), 4);
        C.due("pack(2, 0)", x.pack(2, 0), 27);
        C.due("pack(2, 3)", x.pack(2, 3), 22);
        C.due("in place of what was there", x.tape(22), NONE);
    }

    /** Three BLOCKS of 300 bytes each row, whose tapes by LEVEL 2 have just so many bytes. */
    private static void packJust400() {
        just400(0, 200, 9, 400);
        just400(0, 200, 1, ROOM);
        just400(1, 200, 6, 400);
        just400(1, 200, 13, ROOM);
        just400(2, 230, 16, 400);
        just400(2, 230, 37, ROOM);
    }

    private static void just400(int frame, int cut, int seed, int answer) {
        int[] data = Sample.noise(seed, 300);
        int bytes = Model.pack(data, java.util.Set.of(7, cut), frame, 2).bytes().length;
        C.due("bytes of the row", bytes, answer == ROOM ? 401 : 400);
        DeflateBlocks x = Checks.withData(data);
        x.cutAt(7);
        x.cutAt(cut);
        C.due("pack of " + bytes + " bytes, FRAME " + frame, x.pack(frame, 2), answer);
        C.holds("tape(399)", (x.tape(399) == NONE) == (answer == ROOM));
        C.due("tape(400)", x.tape(400), NONE);
        C.due("open of it", x.open(frame), answer == ROOM ? -11 : 300);
        C.due("at(299)", x.at(299), data[299]);
    }

    private static void open() {
        DeflateBlocks x = made();
        for (int frame : beyond(0, 2)) {
            C.due("open(" + frame + ")", x.open(frame), OUTSIDE);
            C.due("place() behind it", x.place(), NONE);
        }
        for (int frame = 0; frame < 3; frame++) {
            C.due("open(" + frame + ") of an empty TAPE", x.open(frame), -11);
            C.due("place() behind it", x.place(), 0);
        }
        for (int frame = 0; frame < 3; frame++) {
            DeflateBlocks y = Checks.withData("xyz");
            y.pack(frame, 1);
            y.empty();
            C.due("open(" + frame + ") of three bytes", y.open(frame), 3);
            C.due("at(2)", y.at(2), 'z');
        }
    }

    private static void openJust300() {
        int[] data = Sample.unlike(300);
        for (int frame = 0; frame < 3; frame++) {
            for (int level = 0; level < 4; level++) {
                DeflateBlocks x = Checks.withData(data);
                C.holds("it fits", x.pack(frame, level) > 300);
                x.empty();
                C.due("open(" + frame + ") of 300 bytes by LEVEL " + level, x.open(frame), 300);
                C.due("at(299)", x.at(299), data[299]);
            }
        }
        DeflateBlocks y = C.good("300 bytes in two BLOCKS", new Bits().plain(false, data).plain(true), 0, 300);
        C.due("at(299)", y.at(299), data[299]);
        Bits oneMore = new Bits().plain(false, data).plain(true, 5);
        C.fault("301 bytes in two BLOCKS", oneMore, 0, 11, oneMore.length());
    }

    private static void openTakesCutsAway() {
        DeflateBlocks x = Sample.small();
        C.due("open(1)", x.open(1), 20);
        C.due("steps() without CUTS", x.steps(), 4);
        C.due("cutAt(1)", x.cutAt(1), 1);
        C.due("cutAt(2)", x.cutAt(2), 2);
    }

    private static void place() {
        DeflateBlocks x = Checks.withData("place");
        x.pack(1, 1);
        C.due("place() behind pack() alone", x.place(), NONE);
        C.due("open(2)", x.open(2), -22);
        C.due("place()", x.place(), 32);
        C.due("open(3)", x.open(3), OUTSIDE);
        C.due("place() behind a refused open()", x.place(), 32);
        x.more(1);
        x.flip(0, 0);
        x.keep(0);
        x.octet(3);
        x.cutAt(3);
        x.empty();
        x.pack(1, 1);
        C.due("place() behind other calls", x.place(), 32);
        C.due("open(0)", x.open(0), -13);
        C.due("place() of the latest one", x.place(), 40);
        C.due("open(1)", x.open(1), 0);
        C.due("place() behind an open() without a FAULT", x.place(), NONE);
    }

    private static void block() {
        DeflateBlocks x = Checks.withData("blocks");
        x.cutAt(2);
        x.cutAt(5);
        x.pack(1, 0);
        for (int opened = 0; opened < 2; opened++) {
            C.row("BLOCK 0", Checks.block(x, 0), 0, 0, 2, 16, 56);
            C.row("BLOCK 1", Checks.block(x, 1), 0, 2, 3, 72, 64);
            C.row("BLOCK 2", Checks.block(x, 2), 0, 5, 1, 136, 48);
            for (int i : beyond(0, 2)) {
                C.row("BLOCK " + i, Checks.block(x, i), NONE, NONE, NONE, NONE, NONE);
            }
            // 5 facts a BLOCK: five times this number is 4, if an int wraps around.
            C.due("block(858993460, 0)", x.block(858993460, 0), NONE);
            for (int what : beyond(0, 4)) {
                C.due("block(0, " + what + ")", x.block(0, what), OUTSIDE);
                C.due("block(3, " + what + ")", x.block(3, what), OUTSIDE);
                C.due("block(-1, " + what + ")", x.block(-1, what), OUTSIDE);
            }
            C.due("open(1)", x.open(1), 6);
        }
    }

    private static void blockOfNone() {
        DeflateBlocks x = made();
        C.due("block(0, 5) of none", x.block(0, 5), OUTSIDE);
        C.due("block(0, -1) of none", x.block(0, -1), OUTSIDE);
        C.due("block(0, 4) of none", x.block(0, 4), NONE);
        x.open(0);
        C.due("block(0, 0) behind a FAULT alone", x.block(0, 0), NONE);
    }

    /** What stands in DATA and on THE TAPE meanwhile does not matter. */
    private static void blockOfTheLatest() {
        DeflateBlocks x = Checks.withData("latest");
        x.pack(0, 2);
        int[] packed = Checks.block(x, 0);
        int width = x.width(0, 't');
        x.octet('t');
        x.cutAt(3);
        x.flip(0, 0);
        x.open(0);
        x.keep(0);
        x.more(0);
        x.empty();
        C.row("BLOCK 0 behind other calls", Checks.block(x, 0), packed);
        C.due("width(0, 't') behind other calls", x.width(0, 't'), width);
        new Bits().plain(false, 5).begin(true, 1).fixed(256).moveTo(x);
        C.due("open(0)", x.open(0), 1);
        C.row("BLOCK 0 behind open()", Checks.block(x, 0), 0, 0, 1, 0, 48);
        C.row("BLOCK 1 behind open()", Checks.block(x, 1), 1, 1, 0, 48, 10);
        C.due("width(0, 't') behind open()", x.width(0, 't'), NONE);
        x.pack(0, 1);
        C.row("BLOCK 0 behind pack()", Checks.block(x, 0), 1, 0, 1, 0, 18);
        C.due("no BLOCK 1 behind pack()", x.block(1, 0), NONE);
    }

    private static void width() {
        // 259 equal bytes: the byte, 285 and 256; DISTANCE 0 alone.
        DeflateBlocks x = Checks.withData(Sample.equals(259, 0));
        x.pack(0, 2);
        C.due("width(0, 0)", x.width(0, 0), 2);
        C.due("width(0, 285)", x.width(0, 285), 1);
        C.due("width(1, 0)", x.width(1, 0), 1);
        C.due("width(1, 29)", x.width(1, 29), 0);
        C.due("width(2, 0)", x.width(2, 0), 0);
        C.due("width(2, 18)", x.width(2, 18), 1);
        boundsOfWidth(x);
    }

    private static void boundsOfWidth(DeflateBlocks x) {
        int[] last = {285, 29, 18};
        for (int which = 0; which < 3; which++) {
            for (int s : beyond(0, last[which])) {
                C.due("width(" + which + ", " + s + ")", x.width(which, s), OUTSIDE);
            }
        }
        for (int which : beyond(0, 2)) {
            C.due("width(" + which + ", 0)", x.width(which, 0), OUTSIDE);
            C.due("width(" + which + ", 300)", x.width(which, 300), OUTSIDE);
        }
    }

    private static void widthOfNone() {
        DeflateBlocks x = made();
        boundsOfWidth(x);
        x = Checks.withData("abcdefgh");
        x.cutAt(4);
        x.pack(0, 2);
        C.due("width(0, 'a'), only in BLOCK 0", x.width(0, 'a'), 0);
        C.holds("width(0, 'h'), in the last one", x.width(0, 'h') > 0);
        x.pack(0, 1);
        int[] last = {285, 29, 18};
        for (int which = 0; which < 3; which++) {
            C.due("width(" + which + ", 0), no KIND 2", x.width(which, 0), NONE);
            C.due("width(" + which + ", last), no KIND 2", x.width(which, last[which]), NONE);
        }
        boundsOfWidth(x);
        // A BLOCK of KIND 2 stands ahead of one of KIND 1: it is the last of its KIND.
        Bits bits = new Bits().own(false, Bits.widths(257, 9, 1, 256, 1), new int[] {0}).word("0 1");
        DeflateBlocks y = C.good("KIND 2, then 1", bits.begin(true, 1).fixed(256), 0, 1);
        C.due("width(0, 9)", y.width(0, 9), 1);
        C.due("width(0, 10)", y.width(0, 10), 0);
    }

    private static void steps() {
        C.due("steps() of no DATA", made().steps(), 0);
        C.due("steps() of one byte", Checks.withData(4).steps(), 1);
        C.due("steps() of 300 unlike ones", Checks.withData(Sample.unlike(300)).steps(), 300);
        DeflateBlocks x = Checks.withData(Sample.equals(300, 4));
        C.due("steps() of 300 equals", x.steps(), 3);
        x.cutAt(1);
        C.due("steps() with a CUT", x.steps(), 3);
        x.cutAt(299);
        C.due("steps() with two CUTS", x.steps(), 4);
        x.empty();
        C.due("steps() behind empty()", x.steps(), 0);
        x.octet(4);
        C.due("steps() follow DATA", x.steps(), 1);
    }

    private static void step() {
        DeflateBlocks x = Checks.withData("aaaab");
        C.row("step 0", Checks.step(x, 0), 0, 1, 'a');
        C.row("step 1", Checks.step(x, 1), 1, 3, 1);
        C.row("step 2", Checks.step(x, 2), 4, 1, 'b');
        for (int i : beyond(0, 2)) {
            C.row("step " + i, Checks.step(x, i), NONE, NONE, NONE);
        }
        for (int what : beyond(0, 2)) {
            C.due("step(0, " + what + ")", x.step(0, what), OUTSIDE);
            C.due("step(3, " + what + ")", x.step(3, what), OUTSIDE);
            C.due("step(0, " + what + ") of no DATA", made().step(0, what), OUTSIDE);
        }
        DeflateBlocks full = Checks.withData(Sample.unlike(300));
        C.row("step 299", Checks.step(full, 299), 299, 1, 92);
        C.row("step 300", Checks.step(full, 300), NONE, NONE, NONE);
    }

    private static void sum() {
        DeflateBlocks x = made();
        Adler32 adler = new Adler32();
        CRC32 crc = new CRC32();
        C.due("sum(0) of no DATA", x.sum(0), 1);
        C.due("sum(1) of no DATA", x.sum(1), 0);
        for (int n = 1; n <= 300; n++) {
            x.octet(255);
            adler.update(255);
            crc.update(255);
            C.due("sum(0) of " + n + " bytes", x.sum(0), (int) adler.getValue());
            C.due("sum(1) of " + n + " bytes", x.sum(1), (int) crc.getValue());
        }
        // 300 times 255 and 1 is 76501, and the sums of all on the way 11,513,550.
        C.due("sum(0), wrapped around", x.sum(0), (11513550 % 65521) * 65536 + 76501 - 65521);
        for (int kind : beyond(0, 1)) {
            C.due("sum(" + kind + ")", x.sum(kind), 0);
        }
        x.empty();
        C.due("sum(0) behind empty()", x.sum(0), 1);
        C.due("sum(1) behind empty()", x.sum(1), 0);
    }

    private static void tape() {
        DeflateBlocks x = made();
        for (int i : beyond(0, -1)) {
            C.due("tape(" + i + ") of an empty TAPE", x.tape(i), NONE);
        }
        x.more(255);
        x.more(0);
        C.due("tape(0)", x.tape(0), 255);
        C.due("tape(1)", x.tape(1), 0);
        for (int i : beyond(0, 1)) {
            C.due("tape(" + i + ")", x.tape(i), NONE);
        }
        DeflateBlocks full = Sample.fullTape();
        C.due("tape(399)", full.tape(399), 399 % 251);
        C.due("tape(400)", full.tape(400), NONE);
    }

    private static void flip() {
        C.due("flip(0, 0) of an empty TAPE", made().flip(0, 0), OUTSIDE);
        C.due("flip(0, 7) of an empty TAPE", made().flip(0, 7), OUTSIDE);
        DeflateBlocks x = made();
        x.more(0);
        x.more(255);
        for (int k = 0; k < 8; k++) {
            C.due("flip(0, " + k + ")", x.flip(0, k), 1 << k);
            C.due("tape(0)", x.tape(0), 1 << k);
            C.due("flip(0, " + k + ") again", x.flip(0, k), 0);
            C.due("flip(1, " + k + ")", x.flip(1, k), 255 - (1 << k));
            C.due("flip(1, " + k + ") again", x.flip(1, k), 255);
            C.due("tape(0) behind it all", x.tape(0), 0);
        }
        for (int k : beyond(0, 7)) {
            C.due("flip(0, " + k + ")", x.flip(0, k), OUTSIDE);
        }
        // A shift by 32 is none.
        C.due("flip(0, 32)", x.flip(0, 32), OUTSIDE);
        for (int i : beyond(0, 1)) {
            C.due("flip(" + i + ", 0)", x.flip(i, 0), OUTSIDE);
            C.due("flip(" + i + ", 8)", x.flip(i, 8), OUTSIDE);
        }
        DeflateBlocks full = Sample.fullTape();
        C.due("flip(399, 7)", full.flip(399, 7), 399 % 251 ^ 128);
        C.due("flip(400, 7)", full.flip(400, 7), OUTSIDE);
    }

    private static void keep() {
        DeflateBlocks x = made();
        C.due("keep(0) of an empty TAPE", x.keep(0), 0);
        for (int n : beyond(0, 0)) {
            C.due("keep(" + n + ") of an empty TAPE", x.keep(n), OUTSIDE);
        }
        x = Sample.fullTape();
        for (int n : beyond(0, 400)) {
            C.due("keep(" + n + ")", x.keep(n), OUTSIDE);
        }
        C.due("keep(400)", x.keep(400), 400);
        C.due("tape(399)", x.tape(399), 399 % 251);
        C.due("keep(3)", x.keep(3), 3);
        C.due("keep(4)", x.keep(4), OUTSIDE);
        C.due("tape(2)", x.tape(2), 2);
        C.due("tape(3)", x.tape(3), NONE);
        C.due("flip(3, 0)", x.flip(3, 0), OUTSIDE);
        C.due("more(9)", x.more(9), 4);
        C.due("tape(3) anew", x.tape(3), 9);
        C.due("keep(0)", x.keep(0), 0);
        C.due("tape(0)", x.tape(0), NONE);
    }

    private static void more() {
        DeflateBlocks x = made();
        C.due("more(0)", x.more(0), 1);
        C.due("more(255)", x.more(255), 2);
        for (int v : beyond(0, 255)) {
            C.due("more(" + v + ")", x.more(v), OUTSIDE);
        }
        for (int n = 3; n <= 400; n++) {
            C.due("more, the one of number " + n, x.more(n % 256), n);
        }
        C.due("more(0) behind 400", x.more(0), ROOM);
        C.due("more(255) behind 400", x.more(255), ROOM);
        for (int v : beyond(0, 255)) {
            C.due("more(" + v + ") behind 400", x.more(v), OUTSIDE);
        }
        C.due("DATA have none", x.at(0), NONE);
        // What pack() leaves on THE TAPE counts, too.
        DeflateBlocks y = Checks.withData(Sample.unlike(300));
        int left = 400 - y.pack(2, 0);
        for (int n = 0; n < left; n++) {
            y.more(0);
        }
        C.due("more(0) behind what was packed", y.more(0), ROOM);
    }
}
