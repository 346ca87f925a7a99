import java.io.IOException;
import java.lang.reflect.InvocationTargetException;
import java.lang.reflect.Method;
import java.nio.file.Files;
import java.nio.file.Path;
import java.util.HashMap;
import java.util.HashSet;
import java.util.Map;
import java.util.Set;
import java.util.regex.Matcher;
import java.util.regex.Pattern;

/** Makes every call of README.md, as it stands there, and holds the answer against the one that is told behind it. */
public final class ReadmeTest {
    private static final Pattern NEW_OBJECT = Pattern.compile("CastDesk desk = new CastDesk\\(\\);.*");
    private static final Pattern CALL = Pattern.compile(
            "(?:(?:int|boolean) (\\w+) = )?desk\\.(\\w+)\\(([^()]*)\\); *// (throws \\w+|[-\\w]+).*");

    private static final Set<String> called = new HashSet<>();
    private static final Set<String> thrown = new HashSet<>();
    private static Map<String, Object> known = new HashMap<>();
    private static CastDesk desk;

    public static void main(String[] args) throws IOException {
        boolean isCode = false;
        for (String line : Files.readAllLines(Path.of("README.md"))) {
            if (line.startsWith("```")) {
                isCode = line.equals("```java");
            } else if (isCode && !line.isBlank() && !line.startsWith("//")) {
                oneLine(line.strip());
            }
        }
        // What was found is looked at, lest a README without calls pass.
        for (Method method : CastDesk.class.getMethods()) {
            if (method.getDeclaringClass() == CastDesk.class) {
                Due.is("README makes a call of " + method.getName(), called.contains(method.getName()), true);
            }
        }
        Due.is("README tells of so many exceptions", thrown.size(), 3);
        Due.end("ReadmeTest");
    }

    private static void oneLine(String line) {
        Matcher call = CALL.matcher(line);
        if (NEW_OBJECT.matcher(line).matches()) {
            desk = new CastDesk();
            known = new HashMap<>();
        } else if (call.matches()) {
            String want = call.group(4);
            Object answer = answerOf(call.group(2), call.group(3));
            Due.same("README: " + line, String.valueOf(answer), String.valueOf(valueOf(want)));
            known.put(String.valueOf(call.group(1)), answer);
        } else {
            Due.same("README: a line that is no call", line, "");
        }
    }

    private static Object answerOf(String name, String arguments) {
        String[] texts = arguments.isBlank() ? new String[0] : arguments.split(", *");
        Object[] values = new Object[texts.length];
        for (int place = 0; place < texts.length; place++) {
            values[place] = valueOf(texts[place]);
        }
        for (Method method : CastDesk.class.getMethods()) {
            if (method.getName().equals(name) && method.getParameterCount() == values.length) {
                called.add(name);
                return answerOf(method, values);
            }
        }
        return "no such call";
    }

    private static Object answerOf(Method method, Object[] values) {
        try {
            return method.invoke(desk, values);
        } catch (InvocationTargetException e) {
            thrown.add(e.getCause().getClass().getSimpleName());
            return "throws " + e.getCause().getClass().getSimpleName();
        } catch (ReflectiveOperationException e) {
            return e.toString();
        }
    }

    /** What a word of a call stands for: a number, true or false, a constant, an answer kept by its name, or itself. */
    private static Object valueOf(String word) {
        if (word.matches("-?\\d+")) {
            return Integer.valueOf(word);
        }
        if (word.equals("true") || word.equals("false")) {
            return Boolean.valueOf(word);
        }
        try {
            return CastDesk.class.getField(word.replace("CastDesk.", "")).get(null);
        } catch (ReflectiveOperationException e) {
            return known.getOrDefault(word, word);
        }
    }
}
