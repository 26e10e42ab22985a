import java.lang.reflect.InvocationTargetException;
import java.lang.reflect.Method;
import java.lang.reflect.Modifier;
import java.util.HashMap;
import java.util.Map;
import java.util.regex.Matcher;
import java.util.regex.Pattern;

/** README.md: its example answers as it tells there, and each call of the face is told. */
public final class ReadmeTest {
    // A line is "int name = clock.call(arguments); // answer: why", without name or without why as it comes.
    private static final Pattern LINE =
        Pattern.compile("(?:int (\\w+) = )?clock\\.(\\w+)\\((.*)\\); +// (-?\\d+|throws \\w+)(?:: .*)?");

    private final FlowerClock clock = new FlowerClock();
    private final Map<String, Integer> names = new HashMap<>();

    public static void main(String[] args) {
        String readme = Document.read(Document.README);
        ReadmeTest example = new ReadmeTest();
        int calls = 0;
        for (String line : Document.code(readme)) {
            if (!line.isEmpty() && !line.equals("FlowerClock clock = new FlowerClock();")) {
                example.go(line);
                calls++;
            }
        }
        Checks.same("the example is there", calls > 20 ? 1 : 0, 1);
        for (Method method : FlowerClock.class.getDeclaredMethods()) {
            if (Modifier.isPublic(method.getModifiers())) {
                String told = "`" + method.getName() + "(";
                Checks.same("README.md tells " + method.getName(), readme.contains(told) ? 1 : 0, 1);
            }
        }
        Checks.same("README.md tells how to run the tests", readme.contains("\n    .ci/run\n") ? 1 : 0, 1);
        Checks.end("ReadmeTest");
    }

    private void go(String line) {
        Matcher parts = LINE.matcher(line);
        if (!parts.matches()) {
            Checks.sameText("a line of the example", line, "a call with its answer");
            return;
        }
        String answer = answerOf(parts.group(2), parts.group(3));
        Checks.sameText(line, answer, parts.group(4));
        if (parts.group(1) != null) {
            names.put(parts.group(1), Integer.valueOf(answer));
        }
    }

    private String answerOf(String name, String told) {
        String[] words = told.isEmpty() ? new String[0] : told.split(", ");
        Object[] arguments = new Object[words.length];
        for (int i = 0; i < words.length; i++) {
            arguments[i] = names.containsKey(words[i]) ? names.get(words[i]) : Integer.valueOf(words[i]);
        }
        for (Method method : FlowerClock.class.getMethods()) {
            if (method.getName().equals(name)) {
                return answerOf(method, arguments);
            }
        }
        return "no such call";
    }

    private String answerOf(Method method, Object[] arguments) {
        try {
            return String.valueOf(method.invoke(clock, arguments));
        } catch (InvocationTargetException thrown) {
            return "throws " + thrown.getCause().getClass().getSimpleName();
        } catch (IllegalAccessException closed) {
            return closed.toString();
        }
    }
}
