import java.lang.reflect.Constructor;
import java.lang.reflect.Field;
import java.lang.reflect.Method;
import java.lang.reflect.Modifier;
import java.util.ArrayList;
import java.util.Arrays;
import java.util.List;

/** The class shows the document's face and no other member (LANGUAGE.md, rules 1 and 5). */
public final class FaceTest {
    private static final String[] FACE = {
        "boolean byteIn[int, int, int]",
        "boolean up[int, boolean]",
        "int campaign[int]",
        "int catchUp[int, int]",
        "int decided[int, int]",
        "int deliver[int]",
        "int letter[int, int]",
        "int letters[]",
        "int propose[int]",
        "int readByte[int]",
        "int read[int, int]",
        "int resend[int]",
        "int share[int, int, int]",
        "int state[int, int]",
        "int station[int, int]",
        "void drop[int]",
        "void twin[int]",
        "void wipe[int]",
    };

    public static void main(String[] args) {
        Check.due("the class is final", true, Modifier.isFinal(LogHouse.class.getModifiers()));
        Check.due("the class is public", true, Modifier.isPublic(LogHouse.class.getModifiers()));
        methods();
        constructors();
        fields(LogHouse.class);
        for (Class<?> inside : LogHouse.class.getDeclaredClasses()) {
            Check.due(inside + " is static", true, Modifier.isStatic(inside.getModifiers()));
            fields(inside);
        }
        Check.end("FaceTest");
    }

    private static void methods() {
        List<String> shown = new ArrayList<>();
        List<String> names = new ArrayList<>();
        for (Method m : LogHouse.class.getDeclaredMethods()) {
            if (!Modifier.isPrivate(m.getModifiers())) {
                shown.add(m.getReturnType() + " " + m.getName() + parameters(m.getParameterTypes()));
                names.add(m.getName());
            }
        }
        shown.sort(null);
        Check.due("the methods shown", Arrays.toString(FACE), shown.toString());
        for (Method m : LogHouse.class.getDeclaredMethods()) {
            boolean hidden = Modifier.isPrivate(m.getModifiers());
            Check.due(m + " hides a public name", false, hidden && names.contains(m.getName()));
        }
    }

    private static String parameters(Class<?>[] types) {
        List<String> names = new ArrayList<>();
        for (Class<?> type : types) {
            names.add(type.getName());
        }
        return names.toString();
    }

    private static void constructors() {
        Constructor<?>[] all = LogHouse.class.getDeclaredConstructors();
        Check.due("constructors", 1, all.length);
        Check.due("parameters of the constructor", 0, all[0].getParameterCount());
        Check.due("the constructor is public", true, Modifier.isPublic(all[0].getModifiers()));
    }

    private static void fields(Class<?> owner) {
        for (Field f : owner.getDeclaredFields()) {
            int how = f.getModifiers();
            Check.due(f + " is final if static", true, Modifier.isFinal(how) || !Modifier.isStatic(how));
            Check.due(f + " is hidden", true, Modifier.isPrivate(how) || owner != LogHouse.class);
        }
    }
}
