import java.lang.reflect.Constructor;
import java.lang.reflect.Field;
import java.lang.reflect.Method;
import java.lang.reflect.Modifier;
import java.util.TreeSet;

/** The face: its constants, its constructor, its methods, and no other. */
public final class FaceTest {
    private static final Checks C = new Checks("FaceTest");

    public static void main(String[] args) {
        methods();
        constants();
        constructor();
        C.end();
    }

    private static void methods() {
        TreeSet<String> want = new TreeSet<>();
        for (String m : ("octet/1 empty/0 cutAt/1 at/1 pack/2 open/1 place/0 block/2 width/2 steps/0 "
                + "step/2 sum/1 tape/1 flip/2 keep/1 more/1").split(" ")) {
            want.add(m);
        }
        TreeSet<String> got = new TreeSet<>();
        for (Method m : DeflateBlocks.class.getDeclaredMethods()) {
            if (!Modifier.isPrivate(m.getModifiers()) && !m.isSynthetic()) {
                got.add(m.getName() + "/" + m.getParameterCount());
                C.holds(m + " is public", Modifier.isPublic(m.getModifiers()));
                C.holds(m + " answers an int", m.getReturnType() == int.class);
            }
        }
        C.same("methods", got.toString(), want.toString());
    }

    private static void constants() {
        int fields = 0;
        for (Field f : DeflateBlocks.class.getDeclaredFields()) {
            fields += Modifier.isPrivate(f.getModifiers()) ? 0 : 1;
        }
        C.due("constants", fields, 3);
        C.due("NONE", DeflateBlocks.NONE, -1);
        C.due("OUTSIDE", DeflateBlocks.OUTSIDE, -2);
        C.due("ROOM", DeflateBlocks.ROOM, -3);
    }

    private static void constructor() {
        Constructor<?>[] made = DeflateBlocks.class.getDeclaredConstructors();
        C.holds("one public constructor", made.length == 1 && Modifier.isPublic(made[0].getModifiers()));
        C.holds("final", Modifier.isFinal(DeflateBlocks.class.getModifiers()));
    }
}
