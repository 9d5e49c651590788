import java.lang.reflect.Constructor;
import java.lang.reflect.Field;
import java.lang.reflect.Method;
import java.lang.reflect.Modifier;
import java.util.Arrays;
import java.util.TreeSet;

/** The class shows the document's face and nothing else. */
public final class FaceTest {
    public static void main(String[] args) {
        Due.at("the face");
        Due.is("NONE", NameScope.NONE, -1);
        Due.is("FULL", NameScope.FULL, -2);
        Due.is("is final", Modifier.isFinal(NameScope.class.getModifiers()), true);
        Due.is("is public", Modifier.isPublic(NameScope.class.getModifiers()), true);
        Due.is("methods", methods(), String.join(", ", new TreeSet<>(Arrays.asList(
            "public int again()", "public int bind()", "public int contract(int)",
            "public int drop()", "public int global(long)", "public int keep()",
            "public int lay(int,long)", "public int nodes()", "public int uses(int)",
            "public int write()", "public boolean same()", "public long node(int,int)",
            "public long written(int,int)"))));
        Due.is("fields", fields(),
            "public static final int FULL, public static final int NONE");
        Constructor<?>[] all = NameScope.class.getDeclaredConstructors();
        Due.is("constructors", all.length, 1);
        Due.is("the constructor is public", Modifier.isPublic(all[0].getModifiers()), true);
        Due.is("the constructor's parameters", all[0].getParameterCount(), 0);
        Due.end();
    }

    private static String methods() {
        TreeSet<String> shown = new TreeSet<>();
        for (Method method : NameScope.class.getDeclaredMethods()) {
            if (isShown(method.getModifiers(), method.isSynthetic())) {
                String parameters = Arrays.toString(method.getParameterTypes());
                shown.add(Modifier.toString(method.getModifiers()) + " "
                    + method.getReturnType() + " " + method.getName() + "("
                    + parameters.substring(1, parameters.length() - 1).replace(" ", "") + ")");
            }
        }
        return String.join(", ", shown);
    }

    private static String fields() {
        TreeSet<String> shown = new TreeSet<>();
        for (Field field : NameScope.class.getDeclaredFields()) {
            if (isShown(field.getModifiers(), field.isSynthetic())) {
                shown.add(Modifier.toString(field.getModifiers()) + " " + field.getType() + " "
                    + field.getName());
            }
        }
        return String.join(", ", shown);
    }

    private static boolean isShown(int modifiers, boolean isSynthetic) {
        return !isSynthetic && !Modifier.isPrivate(modifiers);
    }
}
