import java.lang.reflect.Constructor;
import java.lang.reflect.Field;
import java.lang.reflect.Method;
import java.lang.reflect.Modifier;
import java.util.ArrayList;
import java.util.Arrays;
import java.util.Collections;
import java.util.List;

/** The class bears the document's face and no other member that others can see. */
public final class FaceTest {
    private static final String[] FACE = {
        "public static final int NONE",
        "public CapitalReckoner()",
        "public int setWeights(int, int, int) IndexOutOfBoundsException IllegalArgumentException",
        "public int setFloor(int) IllegalArgumentException",
        "public int setCapital(int) IllegalArgumentException",
        "public int addExposure(int, int, int, int, int, int)"
            + " IndexOutOfBoundsException IllegalArgumentException IllegalStateException",
        "public int draw(int, int) IndexOutOfBoundsException IllegalArgumentException IllegalStateException",
        "public int setClass(int, int) IndexOutOfBoundsException",
        "public int guarantee(int, int, int) IndexOutOfBoundsException IllegalArgumentException",
        "public int exposures()",
        "public int amount(int) IndexOutOfBoundsException",
        "public int addPiece(int, int, int, int, int) IllegalArgumentException IllegalStateException",
        "public int setPiece(int, int, int) IndexOutOfBoundsException IllegalArgumentException",
        "public int pieces()",
        "public int value(int, int) IndexOutOfBoundsException",
        "public int givenTo(int) IndexOutOfBoundsException",
        "public int bare(int) IndexOutOfBoundsException",
        "public int weighted(int) IndexOutOfBoundsException",
        "public int whole()",
        "public int wholeByTrying()",
        "public int worth(int) IndexOutOfBoundsException",
        "public int plain()",
        "public int required()",
        "public int partyBare(int) IndexOutOfBoundsException",
        "public int tooLarge()",
    };

    public static void main(String[] args) {
        Checks checks = new Checks();
        checks.due("the class", Modifier.toString(CapitalReckoner.class.getModifiers()), "public final");
        List<String> face = new ArrayList<>();
        for (Field f : CapitalReckoner.class.getDeclaredFields()) {
            if (!Modifier.isPrivate(f.getModifiers())) {
                face.add(Modifier.toString(f.getModifiers()) + " " + f.getType() + " " + f.getName());
            }
            checks.due("no changing static field " + f.getName(), isChangingStatic(f), false);
        }
        for (Constructor<?> c : CapitalReckoner.class.getDeclaredConstructors()) {
            face.add(Modifier.toString(c.getModifiers()) + " CapitalReckoner" + list(c.getParameterTypes()));
        }
        for (Method m : CapitalReckoner.class.getDeclaredMethods()) {
            if (!Modifier.isPrivate(m.getModifiers())) {
                face.add(Modifier.toString(m.getModifiers()) + " " + m.getReturnType() + " " + m.getName()
                    + list(m.getParameterTypes()) + thrown(m.getExceptionTypes()));
            }
        }
        List<String> due = new ArrayList<>(Arrays.asList(FACE));
        Collections.sort(due);
        Collections.sort(face);
        checks.due("the face", String.join("\n", face), String.join("\n", due));
        checks.end("FaceTest");
    }

    private static boolean isChangingStatic(Field f) {
        return Modifier.isStatic(f.getModifiers()) && !Modifier.isFinal(f.getModifiers());
    }

    private static String list(Class<?>[] types) {
        List<String> names = new ArrayList<>();
        for (Class<?> type : types) {
            names.add(type.getSimpleName());
        }
        return "(" + String.join(", ", names) + ")";
    }

    private static String thrown(Class<?>[] types) {
        StringBuilder s = new StringBuilder();
        for (Class<?> type : types) {
            s.append(' ').append(type.getSimpleName());
        }
        return s.toString();
    }
}
