/** A call that answers OUTSIDE or ROOM changes nothing, OUTSIDE being ahead of ROOM. */
public final class RefusedTest {
    private static final int NONE = -1, OUTSIDE = -2, ROOM = -3;
    private static final int[] FAR = {Integer.MIN_VALUE, -1, Integer.MAX_VALUE};
    private static final Checks C = new Checks("RefusedTest");

    /** A call and its answer. */
    private interface Call {
        int on(DeflateBlocks x);
    }

    public static void main(String[] args) {
        samplesAreAsTheyShouldBe();
        octet();
        cutAt();
        pack();
        open();
        block();
        width();
        step();
        flip();
        keep();
        more();
        C.end();
    }

    private static void refused(String what, DeflateBlocks x, int answer, Call call) {
        Snapshot before = new Snapshot(x);
        C.due(what, call.on(x), answer);
        before.stays(C, what, x);
        Sample.cutsStay(C, what, x);
    }

    private static void outside(String what, Call call) {
        refused(what, Sample.small(), OUTSIDE, call);
        refused(what + " with full DATA", Sample.fullData(), OUTSIDE, call);
        refused(what + " with a full TAPE", Sample.fullTape(), OUTSIDE, call);
    }

    /** Else the tests below would show nothing. */
    private static void samplesAreAsTheyShouldBe() {
        for (DeflateBlocks x : new DeflateBlocks[] {Sample.small(), Sample.fullData(), Sample.fullTape()}) {
            C.due("place()", x.place(), Sample.PLACE);
            C.due("the KIND of BLOCK 1", x.block(1, 0), 2);
            C.holds("a width", x.width(0, 256) > 0);
        }
        C.holds("full DATA", Sample.fullData().at(299) != NONE);
        C.holds("a full TAPE", Sample.fullTape().tape(399) != NONE);
    }

    private static void octet() {
        for (int far : FAR) {
            outside("octet(" + far + ")", x -> x.octet(far));
        }
        outside("octet(256)", x -> x.octet(256));
        refused("octet(0) behind 300", Sample.fullData(), ROOM, x -> x.octet(0));
        refused("octet(255) behind 300", Sample.fullData(), ROOM, x -> x.octet(255));
    }

    private static void cutAt() {
        for (int far : FAR) {
            outside("cutAt(" + far + ")", x -> x.cutAt(far));
        }
        outside("cutAt(0)", x -> x.cutAt(0));
        outside("cutAt(300)", x -> x.cutAt(300));
        refused("cutAt(1) behind two", Sample.small(), ROOM, x -> x.cutAt(1));
        refused("cutAt(12) behind two", Sample.small(), ROOM, x -> x.cutAt(12));
        refused("cutAt(299) behind two", Sample.fullData(), ROOM, x -> x.cutAt(299));
    }

    private static void pack() {
        for (int far : FAR) {
            outside("pack(" + far + ", 2)", x -> x.pack(far, 2));
            outside("pack(2, " + far + ")", x -> x.pack(2, far));
        }
        outside("pack(3, 2)", x -> x.pack(3, 2));
        outside("pack(2, 4)", x -> x.pack(2, 4));
        refused("pack(2, 2) of too much", Sample.fullData(), ROOM, x -> x.pack(2, 2));
        DeflateBlocks x = Sample.fullData();
        C.due("pack(2, 0)", x.pack(2, 0), 300 + 3 * 5 + 18);
        refused("pack(2, 2) behind another pack()", x, ROOM, y -> y.pack(2, 2));
        C.due("open(2) of what stays there", x.open(2), 300);
    }

    private static void open() {
        for (int far : FAR) {
            outside("open(" + far + ")", x -> x.open(far));
        }
        outside("open(3)", x -> x.open(3));
    }

    private static void block() {
        for (int far : FAR) {
            outside("block(0, " + far + ")", x -> x.block(0, far));
            refused("block(" + far + ", 0)", Sample.small(), NONE, x -> x.block(far, 0));
        }
        outside("block(0, 5)", x -> x.block(0, 5));
        outside("block(9, 5)", x -> x.block(9, 5));
    }

    private static void width() {
        int[] last = {285, 29, 18};
        for (int i = 0; i < 3; i++) {
            int which = i;
            for (int far : FAR) {
                outside("width(" + which + ", " + far + ")", x -> x.width(which, far));
            }
            outside("width(" + which + ", behind the last)", x -> x.width(which, last[which] + 1));
        }
        for (int far : FAR) {
            outside("width(" + far + ", 0)", x -> x.width(far, 0));
        }
        outside("width(3, 0)", x -> x.width(3, 0));
    }

    private static void step() {
        for (int far : FAR) {
            outside("step(0, " + far + ")", x -> x.step(0, far));
            refused("step(" + far + ", 0)", Sample.small(), NONE, x -> x.step(far, 0));
        }
        outside("step(0, 3)", x -> x.step(0, 3));
        outside("step(300, 3)", x -> x.step(300, 3));
    }

    private static void flip() {
        for (int far : FAR) {
            outside("flip(0, " + far + ")", x -> x.flip(0, far));
            outside("flip(" + far + ", 0)", x -> x.flip(far, 0));
        }
        outside("flip(0, 8)", x -> x.flip(0, 8));
        outside("flip(400, 0)", x -> x.flip(400, 0));
    }

    private static void keep() {
        for (int far : FAR) {
            outside("keep(" + far + ")", x -> x.keep(far));
        }
        outside("keep(401)", x -> x.keep(401));
    }

    private static void more() {
        for (int far : FAR) {
            outside("more(" + far + ")", x -> x.more(far));
        }
        outside("more(256)", x -> x.more(256));
        refused("more(0) behind 400", Sample.fullTape(), ROOM, x -> x.more(0));
        refused("more(255) behind 400", Sample.fullTape(), ROOM, x -> x.more(255));
    }
}
