import java.lang.reflect.Constructor;
import java.lang.reflect.Method;
import java.lang.reflect.Modifier;
import java.util.Arrays;
import java.util.TreeSet;

/** The calls that others can make of the class, as they stand in its face, without the parameters' names. */
final class Face {
    private Face() {
    }

    static TreeSet<String> signatures() {
        TreeSet<String> all = new TreeSet<>();
        for (Constructor<?> c : MenuScreens.class.getDeclaredConstructors()) {
            if (!Modifier.isPrivate(c.getModifiers())) {
                all.add(Modifier.toString(c.getModifiers()) + " MenuScreens" + types(c.getParameterTypes()));
            }
        }
        for (Method m : MenuScreens.class.getDeclaredMethods()) {
            if (!Modifier.isPrivate(m.getModifiers())) {
                all.add(Modifier.toString(m.getModifiers()) + " " + m.getReturnType() + " " + m.getName() + types(m.getParameterTypes()));
            }
        }
        return all;
    }

    /** A signature that was written with the parameters' names, as signatures() has it. */
    static String withoutNames(String signature) {
        return "public " + signature.replaceAll("(\\w+) \\w+(?=[,)])", "$1").replace(", ", ",");
    }

    private static String types(Class<?>[] types) {
        return "(" + String.join(",", Arrays.stream(types).map(Class::getSimpleName).toList()) + ")";
    }
}
