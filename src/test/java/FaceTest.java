import java.lang.reflect.Constructor;
import java.lang.reflect.Field;
import java.lang.reflect.Method;
import java.lang.reflect.Modifier;
import java.util.TreeSet;
import java.util.zip.Adler32;
import java.util.zip.CRC32;

/** The face, and promises 1 to 5 and 13 to 17: what stands in DATA and on THE TAPE. */
public final class FaceTest {
    private static final int NONE = -1, OUTSIDE = -2, ROOM = -3;
    private static final int[] FAR = {Integer.MIN_VALUE, -1000, 1000, 65536, Integer.MAX_VALUE};
    private static final Checks C = new Checks("FaceTest");

    public static void main(String[] args) {
        face();
        newObject();
        octetAndEmpty();
        cuts();
        sums();
        tape();
        C.end();
    }

    private static void face() {
        TreeSet<String> want = new TreeSet<>();
        for (String m : ("octet/1 empty/0 cutAt/1 at/1 pack/2 open/1 place/0 block/2 width/2 steps/0 "
                + "step/2 sum/1 tape/1 flip/2 keep/1 more/1").split(" ")) {
            want.add(m);
        }
        TreeSet<String> got = new TreeSet<>();
        for (Method m : DeflateBlocks.class.getDeclaredMethods()) {
            if (!Modifier.isPrivate(m.getModifiers()) && !m.isSynthetic()) {
                got.add(m.getName() + "/" + m.getParameterCount());
                C.holds(m + " is public", Modifier.isPublic(m.getModifiers()));
                C.holds(m + " answers an int", m.getReturnType() == int.class);
            }
        }
        C.holds("methods " + got, got.equals(want));
        int fields = 0;
        for (Field f : DeflateBlocks.class.getDeclaredFields()) {
            fields += Modifier.isPrivate(f.getModifiers()) ? 0 : 1;
        }
        C.due("constants", fields, 3);
        Constructor<?>[] made = DeflateBlocks.class.getDeclaredConstructors();
        C.holds("one public constructor", made.length == 1 && Modifier.isPublic(made[0].getModifiers()));
        C.holds("final", Modifier.isFinal(DeflateBlocks.class.getModifiers()));
        C.due("NONE", DeflateBlocks.NONE, -1);
        C.due("OUTSIDE", DeflateBlocks.OUTSIDE, -2);
        C.due("ROOM", DeflateBlocks.ROOM, -3);
    }

    private static void newObject() {
        DeflateBlocks x = new DeflateBlocks();
        C.due("at(0)", x.at(0), NONE);
        C.due("tape(0)", x.tape(0), NONE);
        C.due("place()", x.place(), NONE);
        C.due("block(0, 0)", x.block(0, 0), NONE);
        C.due("width(0, 0)", x.width(0, 0), NONE);
        C.due("width(1, 29)", x.width(1, 29), NONE);
        C.due("width(2, 18)", x.width(2, 18), NONE);
        C.due("steps()", x.steps(), 0);
        C.due("step(0, 0)", x.step(0, 0), NONE);
        C.due("empty()", x.empty(), 0);
        C.due("keep(0)", x.keep(0), 0);
        x.octet(1);
        C.due("cutAt(1)", x.cutAt(1), 1);
    }

    private static void octetAndEmpty() {
        DeflateBlocks x = new DeflateBlocks();
        C.due("octet(0)", x.octet(0), 1);
        C.due("octet(255)", x.octet(255), 2);
        C.due("octet(-1)", x.octet(-1), OUTSIDE);
        C.due("octet(256)", x.octet(256), OUTSIDE);
        C.due("at(0)", x.at(0), 0);
        C.due("at(1)", x.at(1), 255);
        C.due("at(2)", x.at(2), NONE);
        C.due("at(-1)", x.at(-1), NONE);
        for (int far : FAR) {
            C.due("octet far", x.octet(far), OUTSIDE);
            C.due("at far", x.at(far), NONE);
        }
        for (int i = 3; i <= 300; i++) {
            C.due("octet", x.octet(i % 256), i);
        }
        C.due("octet(7) beyond", x.octet(7), ROOM);
        C.due("octet(256) beyond", x.octet(256), OUTSIDE);
        C.due("at(299)", x.at(299), 300 % 256);
        C.due("at(300)", x.at(300), NONE);
        x.cutAt(5);
        x.cutAt(9);
        C.holds("steps() ahead of empty()", x.steps() > 0);
        C.due("empty()", x.empty(), 300);
        C.due("empty() again", x.empty(), 0);
        C.due("at(0) behind empty()", x.at(0), NONE);
        C.due("steps() behind empty()", x.steps(), 0);
        C.due("cutAt(5) behind empty()", x.cutAt(5), 1);
        C.due("cutAt(9) behind empty()", x.cutAt(9), 2);
        C.due("octet(3) behind empty()", x.octet(3), 1);
    }

    private static void cuts() {
        DeflateBlocks x = new DeflateBlocks();
        C.due("cutAt(0)", x.cutAt(0), OUTSIDE);
        C.due("cutAt(300)", x.cutAt(300), OUTSIDE);
        C.due("cutAt(-1)", x.cutAt(-1), OUTSIDE);
        for (int far : FAR) {
            C.due("cutAt far", x.cutAt(far), OUTSIDE);
        }
        C.due("cutAt(299)", x.cutAt(299), 1);
        C.due("cutAt(299) again", x.cutAt(299), 1);
        C.due("cutAt(1)", x.cutAt(1), 2);
        C.due("cutAt(299) once more", x.cutAt(299), 2);
        C.due("cutAt(1) again", x.cutAt(1), 2);
        C.due("cutAt(2)", x.cutAt(2), ROOM);
        C.due("cutAt(300) beyond", x.cutAt(300), OUTSIDE);
        x.octet(4);
        x.octet(4);
        x.pack(0, 1);
        C.due("BLOCK 1 begins", x.block(1, 1), 1);
        C.due("no BLOCK 2", x.block(2, 1), NONE);
    }

    private static void sums() {
        DeflateBlocks x = new DeflateBlocks();
        Adler32 adler = new Adler32();
        CRC32 crc = new CRC32();
        C.due("sum(0) of none", x.sum(0), 1);
        C.due("sum(1) of none", x.sum(1), 0);
        for (int i = 0; i < 300; i++) {
            int v = i < 150 ? 255 : i * 31 % 256;
            x.octet(v);
            adler.update(v);
            crc.update(v);
            C.due("sum(0)", x.sum(0), (int) adler.getValue());
            C.due("sum(1)", x.sum(1), (int) crc.getValue());
        }
        C.due("sum(2)", x.sum(2), 0);
        C.due("sum(-1)", x.sum(-1), 0);
        for (int far : FAR) {
            C.due("sum far", x.sum(far), 0);
        }
    }

    private static void tape() {
        DeflateBlocks x = new DeflateBlocks();
        C.due("more(-1)", x.more(-1), OUTSIDE);
        C.due("more(256)", x.more(256), OUTSIDE);
        for (int i = 1; i <= 400; i++) {
            C.due("more", x.more(i * 7 % 256), i);
        }
        C.due("more(0) beyond", x.more(0), ROOM);
        C.due("more(256) beyond", x.more(256), OUTSIDE);
        C.due("tape(399)", x.tape(399), 400 * 7 % 256);
        C.due("tape(400)", x.tape(400), NONE);
        C.due("tape(-1)", x.tape(-1), NONE);
        C.due("flip(399, 0)", x.flip(399, 0), 400 * 7 % 256 ^ 1);
        C.due("flip(399, 7)", x.flip(399, 7), 400 * 7 % 256 ^ 129);
        C.due("tape(399) flipped", x.tape(399), 400 * 7 % 256 ^ 129);
        C.due("tape(398) not flipped", x.tape(398), 399 * 7 % 256);
        C.due("flip(400, 0)", x.flip(400, 0), OUTSIDE);
        C.due("flip(-1, 0)", x.flip(-1, 0), OUTSIDE);
        C.due("flip(0, 8)", x.flip(0, 8), OUTSIDE);
        C.due("flip(0, -1)", x.flip(0, -1), OUTSIDE);
        C.due("keep(401)", x.keep(401), OUTSIDE);
        C.due("keep(-1)", x.keep(-1), OUTSIDE);
        C.due("keep(400)", x.keep(400), 400);
        C.due("keep(3)", x.keep(3), 3);
        C.due("keep(4)", x.keep(4), OUTSIDE);
        C.due("tape(2)", x.tape(2), 21);
        C.due("tape(3)", x.tape(3), NONE);
        C.due("flip(3, 0)", x.flip(3, 0), OUTSIDE);
        C.due("more(9)", x.more(9), 4);
        C.due("tape(3) anew", x.tape(3), 9);
        for (int far : FAR) {
            C.due("more far", x.more(far), OUTSIDE);
            C.due("tape far", x.tape(far), NONE);
            C.due("flip far", x.flip(far, 0), OUTSIDE);
            C.due("flip bit far", x.flip(0, far), OUTSIDE);
            C.due("keep far", x.keep(far), OUTSIDE);
        }
        C.due("DATA untouched", x.at(0), NONE);
    }
}
