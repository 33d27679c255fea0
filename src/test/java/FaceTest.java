import java.lang.reflect.Constructor;
import java.lang.reflect.Field;
import java.lang.reflect.Method;
import java.lang.reflect.Modifier;
import java.util.Arrays;
import java.util.List;
import java.util.Set;
import java.util.TreeSet;

/** The public face, and those rules of LANGUAGE.md that can be seen by reflection. */
public final class FaceTest {
    private static final String INDEX = " throws IndexOutOfBoundsException";
    private static final String VALUE = " throws IllegalArgumentException";
    private static final String STATE = " throws IllegalStateException";
    private static final String BOTH = INDEX + ", IllegalArgumentException";
    private static final List<Class<?>> CONSTANTS = List.of(int.class, long.class, boolean.class, char.class,
            String.class, int[].class, long[].class, char[].class, byte[].class);
    private static final String[] FACE = {
        "int shape(int, int, int)" + VALUE,
        "int left(int, int, int)" + BOTH,
        "int top(int, int, int)" + BOTH,
        "int kind(int)" + VALUE,
        "boolean checked(boolean)" + STATE,
        "int broken(int, int, boolean)" + INDEX,
        "int test()" + STATE,
        "int start()" + STATE,
        "int beat(int)" + VALUE + ", IllegalStateException",
        "int bend(int, int, int)" + BOTH,
        "int check()" + STATE,
        "int mesh(int)" + VALUE,
        "int ofCell(int, int, int)" + BOTH,
        "int result(int, int)" + INDEX,
        "int plain(int, int)" + INDEX,
        "String row(int)" + INDEX,
        "int beats(int, int)" + VALUE,
        "int best(int)" + VALUE,
        "int saved()",
        "boolean isSound()",
        "long digest()"};

    public static void main(String[] args) {
        dueFace();
        dueMembers(Pulsemesh.class);
        for (Class<?> inside : Pulsemesh.class.getDeclaredClasses()) {
            dueInside(inside);
        }
        Due.end("FaceTest");
    }

    private static void dueFace() {
        Set<String> found = new TreeSet<>();
        for (Method method : Pulsemesh.class.getDeclaredMethods()) {
            if (!Modifier.isPrivate(method.getModifiers())) {
                Due.same("modifiers of " + method.getName(), Modifier.toString(method.getModifiers()), "public");
                found.add(textOf(method));
            } else {
                Due.same(method + " bears a name of the face", faceNames().contains(method.getName()), false);
            }
        }
        Due.same("the methods", found, new TreeSet<>(Arrays.asList(FACE)));
        Due.same("the class", Modifier.toString(Pulsemesh.class.getModifiers()), "public final");
        Due.same("what it extends", Pulsemesh.class.getSuperclass(), Object.class);
        Constructor<?>[] constructors = Pulsemesh.class.getDeclaredConstructors();
        Due.same("how many constructors", constructors.length, 1);
        Due.same("the constructor", constructors[0].toString(), "public Pulsemesh()");
    }

    private static String textOf(Method method) {
        StringBuilder text = new StringBuilder(method.getReturnType().getSimpleName());
        text.append(' ').append(method.getName()).append('(').append(namesOf(method.getParameterTypes())).append(')');
        if (method.getExceptionTypes().length > 0) {
            text.append(" throws ").append(namesOf(method.getExceptionTypes()));
        }
        return text.toString();
    }

    private static String namesOf(Class<?>[] types) {
        String[] names = new String[types.length];
        for (int i = 0; i < types.length; i++) {
            names[i] = types[i].getSimpleName();
        }
        return String.join(", ", names);
    }

    private static void dueMembers(Class<?> of) {
        int fields = 0;
        for (Field field : of.getDeclaredFields()) {
            int modifiers = field.getModifiers();
            Due.same(field + " is private", Modifier.isPrivate(modifiers), true);
            if (Modifier.isStatic(modifiers)) {
                Due.same(field + " is final", Modifier.isFinal(modifiers), true);
                Due.same(field + " is a constant", CONSTANTS.contains(field.getType()), true);
            } else {
                fields++;
            }
        }
        Due.same(of + " has at most 20 fields", fields <= 20, true);
        for (Method method : of.getDeclaredMethods()) {
            Due.same(method + " has at most 7 parameters", method.getParameterCount() <= 7, true);
        }
    }

    private static void dueInside(Class<?> inside) {
        Due.same(inside + " is static", Modifier.isStatic(inside.getModifiers()), true);
        Due.same(inside + " is not public", Modifier.isPublic(inside.getModifiers()), false);
        dueMembers(inside);
        for (Method method : inside.getDeclaredMethods()) {
            Due.same(method + " bears a name of the face", faceNames().contains(method.getName()), false);
        }
    }

    private static Set<String> faceNames() {
        Set<String> names = new TreeSet<>();
        for (String line : FACE) {
            names.add(line.substring(line.indexOf(' ') + 1, line.indexOf('(')));
        }
        return names;
    }
}
