import java.io.IOException;
import java.lang.reflect.Field;
import java.lang.reflect.Method;
import java.lang.reflect.Modifier;
import java.nio.file.Files;
import java.nio.file.Path;
import java.util.Arrays;
import java.util.HashSet;
import java.util.Set;
import java.util.regex.Matcher;
import java.util.regex.Pattern;

/** The rules of LANGUAGE.md that can be seen in the source, or in the classes made of it. */
public final class LanguageTest {
    private static final Path SOURCE = Path.of("src/main/java/NameScope.java");
    private static final Set<String> NUMBERS = Set.of("compare", "max", "min", "abs", "bitCount",
        "floorDiv", "floorMod", "signum", "numberOfLeadingZeros", "numberOfTrailingZeros");

    public static void main(String[] args) throws IOException {
        String code = withoutTexts(Files.readString(SOURCE));
        onlyTheListedLibrary(code);
        onlyTheListedWords(code);
        theConstructorHandsOutNothing(code);
        staticFieldsAreFinal();
        classesAreSmall();
        noPrivateMethodBearsAPublicName();
        Due.end();
    }

    // What stands in comments and in quotes is no code.
    private static String withoutTexts(String source) {
        return source.replaceAll("(?s)/\\*.*?\\*/", " ").replaceAll("//[^\n]*", " ")
            .replaceAll("'(\\\\.|[^'\\\\])'", "0").replaceAll("\"(\\\\.|[^\"\\\\])*\"", "\"\"");
    }

    private static void onlyTheListedLibrary(String code) {
        Due.at("rule 4");
        Matcher imports = Pattern.compile("import ([^;]*);").matcher(code);
        while (imports.find()) {
            Due.is("import " + imports.group(1) + " is listed",
                imports.group(1).matches("java\\.util\\.(Arrays|ArrayList|List|Iterator)"), true);
        }
        String owners = "Integer|Long|Math|System|Arrays|Short|Byte|Character|Boolean|Double|Float";
        Matcher used = Pattern.compile("\\b(" + owners + ")\\s*\\.\\s*(\\w+)").matcher(code);
        while (used.find()) {
            Due.is(used.group() + " is listed", isListed(used.group(1), used.group(2)), true);
        }
    }

    private static boolean isListed(String owner, String member) {
        switch (owner) {
            case "Integer":
            case "Long":
            case "Math":
                return NUMBERS.contains(member);
            case "System":
                return member.equals("arraycopy");
            case "Arrays":
                return Set.of("copyOf", "copyOfRange", "fill").contains(member);
            default:
                return false;
        }
    }

    // The document wants no exception, so none is thrown and none is caught.
    private static void onlyTheListedWords(String code) {
        Due.at("rules 2, 6 and 10");
        Matcher words = Pattern.compile("\\b(package|try|catch|finally|throws?|synchronized|assert"
            + "|volatile|native|transient|strictfp)\\b|->|::").matcher(code);
        while (words.find()) {
            Due.is(words.group() + " is not used", true, false);
        }
    }

    private static void theConstructorHandsOutNothing(String code) {
        Due.at("rule 12");
        Matcher made = Pattern.compile("(?s)public NameScope\\(\\) \\{(.*?)\\}").matcher(code);
        Due.is("a constructor is found", made.find(), true);
        for (String line : made.group(1).trim().split(";\\s*")) {
            Due.is(line, line.matches("\\w+ = (new \\w+\\(\\)|\\w+)"), true);
        }
    }

    private static void staticFieldsAreFinal() {
        Due.at("rule 5");
        for (Class<?> each : classes()) {
            for (Field field : each.getDeclaredFields()) {
                int modifiers = field.getModifiers();
                Due.is(field + " is final, or not static",
                    Modifier.isFinal(modifiers) || !Modifier.isStatic(modifiers), true);
            }
        }
    }

    private static void classesAreSmall() {
        Due.at("rules 1 and 11");
        Due.is("at most twelve classes", classes().length <= 12, true);
        for (Class<?> each : classes()) {
            boolean isOuter = each == NameScope.class;
            Due.is(each + " is static", isOuter || Modifier.isStatic(each.getModifiers()), true);
            Due.is(each + " is not shown", isOuter || !Modifier.isPublic(each.getModifiers())
                && !Modifier.isProtected(each.getModifiers()), true);
            Due.is(each + " has at most twenty fields", each.getDeclaredFields().length
                - constants(each) <= 20, true);
            for (Method method : each.getDeclaredMethods()) {
                Due.is(method + " takes at most seven", method.getParameterCount() <= 7, true);
            }
        }
    }

    private static long constants(Class<?> each) {
        return Arrays.stream(each.getDeclaredFields())
            .filter(field -> Modifier.isStatic(field.getModifiers())).count();
    }

    private static void noPrivateMethodBearsAPublicName() {
        Due.at("rule 1");
        Set<String> shown = new HashSet<>();
        for (Method method : NameScope.class.getDeclaredMethods()) {
            if (Modifier.isPublic(method.getModifiers())) {
                shown.add(method.getName());
            }
        }
        for (Class<?> each : classes()) {
            for (Method method : each.getDeclaredMethods()) {
                boolean isPrivate = Modifier.isPrivate(method.getModifiers());
                Due.is(method + " bears a name of its own",
                    !isPrivate || !shown.contains(method.getName()), true);
            }
        }
    }

    private static Class<?>[] classes() {
        Class<?>[] inside = NameScope.class.getDeclaredClasses();
        Class<?>[] all = Arrays.copyOf(inside, inside.length + 1);
        all[inside.length] = NameScope.class;
        return all;
    }
}
