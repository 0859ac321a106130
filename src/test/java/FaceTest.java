import java.lang.reflect.Constructor;
import java.lang.reflect.Field;
import java.lang.reflect.Method;
import java.lang.reflect.Modifier;
import java.util.ArrayList;
import java.util.Collections;
import java.util.List;

/** The public face: the members of the document, and no other that is not private. */
public final class FaceTest {
    private static final String[] METHODS = {
        "boolean kill[int]",
        "int cage[int, int, int, int, int]",
        "int count[int]",
        "int file[int, int]",
        "int look[int, int]",
        "int node[int, int, int, int]",
        "int process[int, int]",
        "int start[int, int, int]",
        "int step[int, int, int, int]",
        "int sys[int, int, int, int]",
        "int wipe[int]",
    };
    private static final String[] CONSTANTS = {
        "AGAIN=-10", "BUSY=-7", "DENIED=-4", "EXISTS=-8", "FILTERED=-12", "FULL=-5", "KILLED=-11", "KIND=-3",
        "MISSING=-2", "NONE=-9", "QUOTA=-6", "REFUSED=-1", "UNKNOWN=-13",
    };

    public static void main(String[] args) throws IllegalAccessException {
        int kind = CageKernel.class.getModifiers();
        Check.due("public final class", true, Modifier.isPublic(kind) && Modifier.isFinal(kind));
        same("methods", METHODS, methods());
        same("constants", CONSTANTS, constants());
        Constructor<?>[] constructors = CageKernel.class.getDeclaredConstructors();
        Check.due("constructors", 1, constructors.length);
        Check.due("its modifiers", Modifier.PUBLIC, constructors[0].getModifiers());
        Check.due("its parameters", 0, constructors[0].getParameterCount());
        Check.end();
    }

    private static List<String> methods() {
        List<String> found = new ArrayList<>();
        for (Method m : CageKernel.class.getDeclaredMethods()) {
            if (Modifier.isPrivate(m.getModifiers())) {
                continue;
            }
            Check.due(m.getName() + " is public and no more", Modifier.PUBLIC, m.getModifiers());
            List<String> types = new ArrayList<>();
            for (Class<?> type : m.getParameterTypes()) {
                types.add(type.getName());
            }
            found.add(m.getReturnType().getName() + " " + m.getName() + types);
        }
        return found;
    }

    private static List<String> constants() throws IllegalAccessException {
        List<String> found = new ArrayList<>();
        for (Field f : CageKernel.class.getDeclaredFields()) {
            if (Modifier.isPrivate(f.getModifiers())) {
                continue;
            }
            Check.due(f.getName(), Modifier.PUBLIC | Modifier.STATIC | Modifier.FINAL, f.getModifiers());
            found.add(f.getName() + "=" + f.getInt(null));
        }
        return found;
    }

    private static void same(String what, String[] want, List<String> got) {
        Collections.sort(got);
        Check.due(what + " " + got, true, List.of(want).equals(got));
    }
}
