import java.io.IOException;
import java.lang.reflect.InvocationTargetException;
import java.lang.reflect.Method;
import java.nio.charset.StandardCharsets;
import java.nio.file.Files;
import java.nio.file.Path;
import java.util.Set;
import java.util.TreeSet;
import java.util.regex.Matcher;
import java.util.regex.Pattern;

/** Does the example of README.md line by line: each call there answers what stands behind it. */
public final class ReadmeTest {
    private static final Pattern CALL = Pattern.compile("x\\.(\\w+)\\(([^)]*)\\);\\s+// (\\S+)( .*)?");
    private static final String MADE = "Pulsemesh x = new Pulsemesh();";

    private Pulsemesh x = null;
    private final Set<String> called = new TreeSet<>();

    public static void main(String[] args) throws IOException {
        ReadmeTest test = new ReadmeTest();
        for (String line : Files.readAllLines(Path.of("README.md"), StandardCharsets.UTF_8)) {
            test.read(line.strip());
        }
        test.dueAllCalled();
        Due.end("ReadmeTest");
    }

    private void read(String line) {
        Matcher call = CALL.matcher(line);
        if (line.startsWith(MADE)) {
            x = new Pulsemesh();
        } else if (call.matches()) {
            String want = call.group(3).equals("throws") ? "throws " + call.group(4).strip() : call.group(3);
            Due.same("README.md: " + line, answerOf(call.group(1), call.group(2)), want);
        } else {
            Due.same("README.md has a call without an answer: " + line, line.startsWith("x."), false);
        }
    }

    private String answerOf(String name, String given) {
        String[] words = given.isEmpty() ? new String[0] : given.split(", ");
        for (Method method : Pulsemesh.class.getMethods()) {
            if (method.getName().equals(name) && method.getParameterCount() == words.length) {
                called.add(name);
                return textOf(method, numbersOf(words));
            }
        }
        return "no such method";
    }

    private static Object[] numbersOf(String[] words) {
        Object[] numbers = new Object[words.length];
        for (int i = 0; i < words.length; i++) {
            boolean isTruth = words[i].equals("true") || words[i].equals("false");
            numbers[i] = isTruth ? (Object) Boolean.valueOf(words[i]) : (Object) Integer.valueOf(words[i]);
        }
        return numbers;
    }

    private String textOf(Method method, Object[] numbers) {
        try {
            Object answer = method.invoke(x, numbers);
            return answer instanceof String ? "\"" + answer + "\"" : answer.toString();
        } catch (InvocationTargetException e) {
            return "throws " + e.getCause().getClass().getSimpleName();
        } catch (IllegalAccessException | RuntimeException e) {
            return "can't be called: " + e;
        }
    }

    private void dueAllCalled() {
        Set<String> face = new TreeSet<>();
        for (Method method : Pulsemesh.class.getDeclaredMethods()) {
            if (java.lang.reflect.Modifier.isPublic(method.getModifiers())) {
                face.add(method.getName());
            }
        }
        Due.same("the methods that README.md calls", called, face);
    }
}
