import java.lang.reflect.Constructor;
import java.lang.reflect.Field;
import java.lang.reflect.Method;
import java.lang.reflect.Modifier;
import java.util.ArrayList;
import java.util.Arrays;
import java.util.HashSet;
import java.util.List;
import java.util.Set;
import java.util.TreeSet;

/** The face is that of the document, and nothing else can be seen from outside. */
public final class FaceTest {
    private static final String INDEX = "IndexOutOfBoundsException";
    private static final String ARGUMENT = "IllegalArgumentException";
    private static final String STATE = "IllegalStateException";

    public static void main(String[] args) {
        Class<?> face = LoadStoreRows.class;
        Check.due("modifiers", Modifier.toString(face.getModifiers()), "public final");
        Check.due("superclass", face.getSuperclass(), Object.class);
        Check.due("interfaces", face.getInterfaces().length, 0);
        Check.due("visible members", visibleMembers(face), dueMembers());
        Check.due("NONE", LoadStoreRows.NONE, -1);
        noPrivateMethodBearsAPublicName(face);
        noStaticState(face);
        Check.end();
    }

    private static Set<String> dueMembers() {
        return new TreeSet<>(List.of(
                "field NONE int public static final",
                "constructor []",
                "int op [int, int, int] [IllegalArgumentException, UnsupportedOperationException]",
                "int address [int, int] [" + INDEX + ", " + ARGUMENT + "]",
                "int number [int, int] [" + INDEX + ", " + ARGUMENT + "]",
                "int tried [int] [" + INDEX + ", " + ARGUMENT + "]",
                "int loaded [int] [" + INDEX + ", " + ARGUMENT + ", " + STATE + "]",
                "int source [int, int] [" + INDEX + ", " + ARGUMENT + ", " + STATE + "]",
                "int leave [] []",
                "int drain [] []",
                "int other [int, int] [" + ARGUMENT + "]",
                "int memory [int] [" + ARGUMENT + "]",
                "int forget [int] [" + INDEX + ", " + ARGUMENT + "]",
                "boolean marked [int] []",
                "int count [int] []"));
    }

    private static Set<String> visibleMembers(Class<?> face) {
        Set<String> seen = new TreeSet<>();
        for (Field f : face.getDeclaredFields()) {
            if (!Modifier.isPrivate(f.getModifiers())) {
                seen.add("field " + f.getName() + " " + f.getType().getSimpleName() + " "
                        + Modifier.toString(f.getModifiers()));
            }
        }
        for (Constructor<?> c : face.getDeclaredConstructors()) {
            if (!Modifier.isPrivate(c.getModifiers())) {
                seen.add("constructor " + names(c.getParameterTypes()));
            }
        }
        for (Method m : face.getDeclaredMethods()) {
            if (!Modifier.isPrivate(m.getModifiers())) {
                Check.due("modifiers of " + m.getName(), Modifier.toString(m.getModifiers()), "public");
                seen.add(m.getReturnType() + " " + m.getName() + " " + names(m.getParameterTypes()) + " "
                        + names(m.getExceptionTypes()));
            }
        }
        return seen;
    }

    private static List<String> names(Class<?>[] types) {
        List<String> names = new ArrayList<>();
        Arrays.asList(types).forEach(t -> names.add(t.getSimpleName()));
        return names;
    }

    private static void noPrivateMethodBearsAPublicName(Class<?> face) {
        Set<String> open = new HashSet<>();
        for (Method m : face.getMethods()) {
            open.add(m.getName());
        }
        for (Method m : face.getDeclaredMethods()) {
            boolean both = Modifier.isPrivate(m.getModifiers()) && open.contains(m.getName());
            Check.due("private and public: " + m.getName(), both, false);
        }
    }

    private static void noStaticState(Class<?> face) {
        List<Class<?>> all = new ArrayList<>(Arrays.asList(face.getDeclaredClasses()));
        all.add(face);
        for (Class<?> c : all) {
            for (Field f : c.getDeclaredFields()) {
                boolean open = Modifier.isStatic(f.getModifiers()) && !Modifier.isFinal(f.getModifiers());
                Check.due("static and not final: " + f, open, false);
            }
        }
    }
}
