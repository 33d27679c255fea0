import java.io.IOException;
import java.lang.reflect.Constructor;
import java.lang.reflect.Field;
import java.lang.reflect.Method;
import java.lang.reflect.Modifier;
import java.nio.charset.StandardCharsets;
import java.nio.file.Files;
import java.nio.file.Path;
import java.util.Arrays;
import java.util.Set;
import java.util.TreeSet;
import java.util.regex.Matcher;
import java.util.regex.Pattern;

/** The public face, and those rules of LANGUAGE.md that can be seen by reflection or in the text. */
public final class FaceTest {
    private static final String SOURCE = "src/main/java/Pulsemesh.java";
    private static final String INDEX = " throws IndexOutOfBoundsException";
    private static final String VALUE = " throws IllegalArgumentException";
    private static final String STATE = " throws IllegalStateException";
    private static final String BOTH = INDEX + ", IllegalArgumentException";
    private static final String[] FACE = {
        "int shape(int, int, int)" + VALUE,
        "int left(int, int, int)" + BOTH,
        "int top(int, int, int)" + BOTH,
        "int kind(int)" + VALUE,
        "boolean checked(boolean)" + STATE,
        "int broken(int, int, boolean)" + INDEX,
        "int test()" + STATE,
        "int start()" + STATE,
        "int beat(int)" + VALUE + ", IllegalStateException",
        "int bend(int, int, int)" + BOTH,
        "int check()" + STATE,
        "int mesh(int)" + VALUE,
        "int ofCell(int, int, int)" + BOTH,
        "int result(int, int)" + INDEX,
        "int plain(int, int)" + INDEX,
        "String row(int)" + INDEX,
        "int beats(int, int)" + VALUE,
        "int best(int)" + VALUE,
        "int saved()",
        "boolean isSound()",
        "long digest()"};

    public static void main(String[] args) throws IOException {
        dueFace();
        dueMembers(Pulsemesh.class);
        for (Class<?> inside : Pulsemesh.class.getDeclaredClasses()) {
            dueInside(inside);
        }
        dueText(Files.readString(Path.of(SOURCE), StandardCharsets.UTF_8));
        Due.end("FaceTest");
    }

    private static void dueFace() {
        Set<String> found = new TreeSet<>();
        for (Method method : Pulsemesh.class.getDeclaredMethods()) {
            if (!Modifier.isPrivate(method.getModifiers())) {
                Due.same("modifiers of " + method.getName(), Modifier.toString(method.getModifiers()), "public");
                found.add(textOf(method));
            }
        }
        Due.same("the methods", found, new TreeSet<>(Arrays.asList(FACE)));
        Due.same("the class", Modifier.toString(Pulsemesh.class.getModifiers()), "public final");
        Due.same("what it extends", Pulsemesh.class.getSuperclass(), Object.class);
        Constructor<?>[] constructors = Pulsemesh.class.getDeclaredConstructors();
        Due.same("how many constructors", constructors.length, 1);
        Due.same("the constructor", constructors[0].toString(), "public Pulsemesh()");
    }

    private static String textOf(Method method) {
        StringBuilder text = new StringBuilder(method.getReturnType().getSimpleName());
        text.append(' ').append(method.getName()).append('(').append(namesOf(method.getParameterTypes())).append(')');
        if (method.getExceptionTypes().length > 0) {
            text.append(" throws ").append(namesOf(method.getExceptionTypes()));
        }
        return text.toString();
    }

    private static String namesOf(Class<?>[] types) {
        String[] names = new String[types.length];
        for (int i = 0; i < types.length; i++) {
            names[i] = types[i].getSimpleName();
        }
        return String.join(", ", names);
    }

    private static void dueMembers(Class<?> of) {
        int fields = 0;
        for (Field field : of.getDeclaredFields()) {
            int modifiers = field.getModifiers();
            Due.same(field + " is private", Modifier.isPrivate(modifiers), true);
            if (Modifier.isStatic(modifiers)) {
                Due.same(field + " is final", Modifier.isFinal(modifiers), true);
            } else {
                fields++;
            }
        }
        Due.same(of + " has at most 20 fields", fields <= 20, true);
        for (Method method : of.getDeclaredMethods()) {
            Due.same(method + " has at most 7 parameters", method.getParameterCount() <= 7, true);
        }
    }

    private static void dueInside(Class<?> inside) {
        Due.same(inside + " is static", Modifier.isStatic(inside.getModifiers()), true);
        Due.same(inside + " is not public", Modifier.isPublic(inside.getModifiers()), false);
        dueMembers(inside);
        Set<String> face = new TreeSet<>();
        for (String line : FACE) {
            face.add(line.substring(line.indexOf(' ') + 1, line.indexOf('(')));
        }
        for (Method method : inside.getDeclaredMethods()) {
            Due.same(method + " bears a name of the face", face.contains(method.getName()), false);
        }
    }

    private static void dueText(String source) {
        Due.same("signs above 126", source.chars().allMatch(sign -> sign == '\n' || sign >= 32 && sign <= 126), true);
        String code = source.replaceAll("(?s)/\\*.*?\\*/", "").replaceAll("//[^\n]*", "");
        String[] barred = {"\\bimport\\b", "\\bpackage\\b", "\\bcatch\\b", "\\btry\\b", "\\bfinally\\b", "->", "::",
            "\\bassert\\b", "\\bsynchronized\\b", "\\binstanceof\\b", "\\bThread\\b", "\\bSystem\\b", "\\bRandom\\b",
            "\\bExact\\b", "\\bprotected\\b", "\\bhashCode\\b", "\\bequals\\b", "\\bvar\\b", "\\brecord\\b",
            "\\bwhile\\b", "\"\\s*\\+", "\\+\\s*\""};
        for (String each : barred) {
            Due.same("'" + each + "' is found", Pattern.compile(each).matcher(code).find(), false);
        }
        Matcher thrown = Pattern.compile("\\bthrow\\b[^;]*;").matcher(code);
        while (thrown.find()) {
            boolean isWritten = thrown.group().matches(
                    "throw new (IllegalState|IllegalArgument|IndexOutOfBounds)Exception\\(\"[^\"]*\"\\);");
            Due.same(thrown.group() + " is of rule 6", isWritten, true);
        }
        Due.same("how many classes", code.split("\\bclass\\b").length - 1 <= 12, true);
    }
}
