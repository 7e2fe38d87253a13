import java.io.IOException;
import java.lang.reflect.Constructor;
import java.lang.reflect.Field;
import java.lang.reflect.Method;
import java.lang.reflect.Modifier;
import java.nio.file.Files;
import java.nio.file.Path;
import java.util.Arrays;
import java.util.List;
import java.util.TreeSet;
import java.util.regex.Matcher;
import java.util.regex.Pattern;

/** The public face, and the rules of LANGUAGE.md that a look at the class and its source can check. */
public final class LanguageTest {
    private static final Due due = new Due();
    private static final List<String> FACE = List.of(
            "void sign(int)", "int read()", "int value(int,long,boolean)", "int press(int)",
            "int shown(int,int)", "int warn(int,long)", "int warning(int)", "int accept(int)",
            "int trip(long,long)", "long sum(int,int)", "int speed(long)", "int language(int)",
            "int ring(int)", "int setting(int,long)", "int lamp(int,boolean)");
    private static final List<String> BANNED = List.of(
            "\\bthrow\\b", "\\bthrows\\b", "\\btry\\b", "\\bcatch\\b", "\\bsynchronized\\b", "\\bassert\\b",
            "->", "::", "^package\\b", "\\bprotected\\b", "Exact\\(", "\\.hashCode\\(", "String\\.format",
            "^import (?!java\\.util\\.(ArrayList|List|Arrays|Iterator);)", "\\bString\\[\\]", "\\bObject\\b", "@");

    public static void main(String[] args) throws IOException {
        face();
        names();
        staticFields();
        source(Files.readString(Path.of("src/main/java/MenuScreens.java")));
        due.end();
    }

    private static String types(Class<?>[] types) {
        return "(" + String.join(",", Arrays.stream(types).map(Class::getSimpleName).toList()) + ")";
    }

    private static void face() {
        due.is("modifiers", Modifier.toString(MenuScreens.class.getModifiers()), "public final");
        TreeSet<String> open = new TreeSet<>();
        for (Method m : MenuScreens.class.getDeclaredMethods()) {
            if (!Modifier.isPrivate(m.getModifiers()) && !m.isSynthetic()) {
                open.add(Modifier.toString(m.getModifiers()) + " " + m.getReturnType() + " " + m.getName() + types(m.getParameterTypes()));
            }
        }
        TreeSet<String> wanted = new TreeSet<>();
        FACE.forEach(m -> wanted.add("public " + m));
        due.is("methods", open.toString(), wanted.toString());
        Constructor<?>[] made = MenuScreens.class.getDeclaredConstructors();
        due.is("constructors", made.length, 1);
        due.is("constructor", types(made[0].getParameterTypes()), "(int,int)");
        for (Field f : MenuScreens.class.getDeclaredFields()) {
            due.is(f.getName() + " is private", Modifier.isPrivate(f.getModifiers()) ? 1 : 0, 1);
        }
    }

    private static void names() {
        for (Class<?> inside : MenuScreens.class.getDeclaredClasses()) {
            due.is(inside + " is static", Modifier.isStatic(inside.getModifiers()) ? 1 : 0, 1);
            for (Method m : inside.getDeclaredMethods()) {
                boolean taken = FACE.stream().anyMatch(f -> f.contains(" " + m.getName() + "("));
                due.is(inside + " " + m.getName() + " bears a name of the face", taken ? 1 : 0, 0);
                due.is(m.getName() + " takes at most seven", Math.max(m.getParameterCount(), 7), 7);
            }
        }
        due.is("at most twelve classes", Math.max(MenuScreens.class.getDeclaredClasses().length + 1, 12), 12);
    }

    private static void staticFields() {
        for (Class<?> one : MenuScreens.class.getNestMembers()) {
            for (Field f : one.getDeclaredFields()) {
                if (Modifier.isStatic(f.getModifiers())) {
                    due.is(f + " is final", Modifier.isFinal(f.getModifiers()) ? 1 : 0, 1);
                }
            }
        }
    }

    private static void source(String source) {
        String code = source.replaceAll("(?s)/\\*.*?\\*/", "").replaceAll("//[^\n]*", "");
        for (String banned : BANNED) {
            Matcher found = Pattern.compile(banned, Pattern.MULTILINE).matcher(code);
            due.is("'" + banned + "' in the source", found.find() ? found.group() : "", "");
        }
    }
}
