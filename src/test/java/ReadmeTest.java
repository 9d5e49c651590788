import java.io.IOException;
import java.lang.reflect.InvocationTargetException;
import java.lang.reflect.Method;
import java.lang.reflect.Modifier;
import java.nio.file.Files;
import java.nio.file.Path;
import java.util.HashSet;
import java.util.Set;
import java.util.regex.Matcher;
import java.util.regex.Pattern;

/**
 * The example in README.md: each of its calls is made, and where a call's comment begins with an
 * answer, that is what is due. All calls of the face are told there.
 */
public final class ReadmeTest {
    private static final Pattern CALL =
        Pattern.compile("scope\\.(\\w+)\\((.*)\\); +// (-?\\d+|true|false)?.*");

    public static void main(String[] args) throws IOException, ReflectiveOperationException {
        Due.at("README.md");
        String readme = Files.readString(Path.of("README.md"));
        runExample(readme.substring(readme.indexOf("```java"), readme.lastIndexOf("```")));
        for (Method method : NameScope.class.getDeclaredMethods()) {
            if (Modifier.isPublic(method.getModifiers())) {
                boolean isTold = readme.contains("| `" + method.getName() + "(");
                Due.is(method.getName() + " is told", isTold, true);
            }
        }
        Due.end();
    }

    private static void runExample(String example) throws ReflectiveOperationException {
        NameScope scope = new NameScope();
        Set<String> called = new HashSet<>();
        for (String line : example.split("\n")) {
            Matcher call = CALL.matcher(line);
            if (call.matches()) {
                String got = answer(scope, call.group(1), call.group(2));
                Due.is(line, got, call.group(3) == null ? got : call.group(3));
                called.add(call.group(1));
            } else {
                Due.is("a call is read: " + line, line.startsWith("scope."), false);
            }
        }
        Due.is("calls of all kinds but drop", called.size(), 12);
    }

    private static String answer(NameScope scope, String name, String inside)
            throws IllegalAccessException, InvocationTargetException {
        for (Method method : NameScope.class.getDeclaredMethods()) {
            if (method.getName().equals(name)) {
                Class<?>[] types = method.getParameterTypes();
                String[] texts = inside.isEmpty() ? new String[0] : inside.split(", ");
                Object[] values = new Object[texts.length];
                for (int i = 0; i < texts.length; i++) {
                    boolean isLetter = texts[i].matches("'.'");
                    long value = isLetter ? texts[i].charAt(1) : Long.parseLong(texts[i]);
                    if (types[i] == long.class) {
                        values[i] = value;
                    } else {
                        values[i] = (int) value;
                    }
                }
                return String.valueOf(method.invoke(scope, values));
            }
        }
        return "no such call";
    }
}
