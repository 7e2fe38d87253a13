import java.io.IOException;
import java.lang.reflect.Constructor;
import java.lang.reflect.Field;
import java.lang.reflect.Method;
import java.lang.reflect.Modifier;
import java.nio.file.Files;
import java.nio.file.Path;
import java.util.ArrayList;
import java.util.Arrays;
import java.util.List;
import java.util.TreeSet;
import java.util.regex.Matcher;
import java.util.regex.Pattern;

/** The public face, and the rules of LANGUAGE.md that a look at the source and the compiled class can check. */
public final class LanguageTest {
    private static final Due due = new Due();
    private static final Path SOURCE = Path.of("src/main/java/MenuScreens.java");
    private static final List<String> FACE = List.of("MenuScreens(int rows, int columns)",
            "void sign(int c)", "int read()", "int value(int name, long v, boolean valid)", "int press(int key)",
            "int shown(int row, int column)", "int warn(int rank, long t)", "int warning(int i)", "int accept(int warning)",
            "int trip(long metres, long cents)", "long sum(int what, int side)", "int speed(long v)", "int language(int l)",
            "int ring(int i)", "int setting(int name, long v)", "int lamp(int i, boolean works)");
    private static final List<String> BANNED = List.of(
            "\\bthrow\\b", "\\bthrows\\b", "\\btry\\b", "\\bcatch\\b", "\\bsynchronized\\b", "\\bassert\\b",
            "->", "::", "^package\\b", "\\bprotected\\b", "\\bstatic\\s*\\{",
            "^import (?!java\\.util\\.(ArrayList|List|Arrays|Iterator);)", "\\bString\\[\\]", "\\bObject\\b", "@");
    private static final String OWN = "MenuScreens(\\$\\w+)?";
    // Rule 4, as the compiled class names what it calls; a list's elements are Objects there.
    private static final List<String> LIBRARY = List.of(
            "java/lang/Object\\.<init>\\(\\)V",
            "java/lang/String\\.(length|charAt|isEmpty|equals|substring|toCharArray)\\(.*",
            "java/lang/String\\.indexOf\\(I\\)I", "java/lang/String\\.<init>\\(\\[C\\)V",
            "java/lang/StringBuilder\\.<init>\\(\\)V", "java/lang/StringBuilder\\.append\\((C|I|Ljava/lang/String;)\\).*",
            "java/lang/StringBuilder\\.(charAt|setCharAt|setLength|deleteCharAt|reverse|length|toString)\\(.*",
            "java/util/(ArrayList|List)\\.(add|get|set|size|isEmpty|clear)\\(.*", "java/util/ArrayList\\.<init>\\(\\)V",
            "java/util/(ArrayList|List)\\.remove\\(I\\).*",
            "java/lang/(Integer|Long|Math)\\.(compare|max|min|abs|bitCount|floorDiv|floorMod|signum)\\([IJ]*\\)[IJ]",
            "java/lang/System\\.arraycopy\\(.*", "java/util/Arrays\\.(copyOf|copyOfRange|fill)\\(\\[[^L].*");
    private static final String TYPES = "int|long|short|byte|char|boolean|(int|long|short|byte|char|boolean)\\[\\]|"
            + "java.lang.String|java.lang.StringBuilder|java.util.ArrayList<MenuScreens\\$\\w+>|MenuScreens\\$\\w+";
    private static final String CONSTANTS = "int|long|boolean|char|java.lang.String|(int|long|char|byte)\\[\\]";
    private static final int LONGEST_METHOD = 60;

    public static void main(String[] args) throws IOException {
        String source = Files.readString(SOURCE);
        String code = source.replaceAll("(?s)/\\*.*?\\*/", "").replaceAll("//[^\n]*", "");
        face();
        classesInside();
        namesOfPrivateMethods();
        fields();
        library();
        bannedWords(code);
        constructorsHandOutNothing(code);
        sizes(source);
        due.end();
    }

    private static int oneIf(boolean holds) {
        return holds ? 1 : 0;
    }

    private static void face() {
        due.about("1. The face: the class of the document, public and final");
        due.is("modifiers", Modifier.toString(MenuScreens.class.getModifiers()), "public final");
        TreeSet<String> wanted = new TreeSet<>();
        FACE.forEach(call -> wanted.add(Face.withoutNames(call)));
        due.is("calls", Face.signatures().toString(), wanted.toString());
        for (Field f : MenuScreens.class.getDeclaredFields()) {
            due.is(f.getName() + " is private", oneIf(Modifier.isPrivate(f.getModifiers())), 1);
        }
    }

    private static void classesInside() {
        due.about("2. No inner class that isn't static, no local or anonymous class");
        // Local and anonymous classes are members of the nest, but are not declared by the class.
        due.is("classes", MenuScreens.class.getNestMembers().length, MenuScreens.class.getDeclaredClasses().length + 1);
        for (Class<?> inside : MenuScreens.class.getDeclaredClasses()) {
            int modifiers = inside.getModifiers();
            due.is(inside + " is static", oneIf(Modifier.isStatic(modifiers)), 1);
            due.is(inside + " is not open", oneIf(Modifier.isPublic(modifiers) || Modifier.isProtected(modifiers)), 0);
        }
    }

    private static void namesOfPrivateMethods() {
        due.about("1. No private method bears the name of a public one.");
        for (Class<?> one : MenuScreens.class.getNestMembers()) {
            for (Method m : one.getDeclaredMethods()) {
                boolean taken = FACE.stream().anyMatch(f -> f.contains(" " + m.getName() + "("));
                due.is(m + " bears a name of the face", oneIf(taken && !Modifier.isPublic(m.getModifiers())), 0);
            }
        }
    }

    private static void fields() {
        for (Class<?> one : MenuScreens.class.getNestMembers()) {
            int own = 0;
            for (Field f : one.getDeclaredFields()) {
                boolean isStatic = Modifier.isStatic(f.getModifiers());
                own += isStatic ? 0 : 1;
                due.about(isStatic ? "5. Static fields are final: constants" : "3. Types");
                due.is(f + " is final", oneIf(!isStatic || Modifier.isFinal(f.getModifiers())), 1);
                String type = f.getGenericType().getTypeName();
                due.is(f + " has a type that may be", oneIf(type.matches(isStatic ? CONSTANTS : TYPES)), 1);
            }
            due.about("11. a class some twenty fields beside its constants");
            due.is("fields of " + one, Math.max(own, 20), 20);
        }
    }

    private static void library() throws IOException {
        due.about("4. The library: only what stands here.");
        int called = 0;
        for (Class<?> one : MenuScreens.class.getNestMembers()) {
            for (String method : CalledMethods.of(one)) {
                boolean own = method.matches(OWN + "\\..*");
                called += own ? 0 : 1;
                due.is(one + " calls " + method, oneIf(own || LIBRARY.stream().anyMatch(method::matches)), 1);
            }
        }
        due.is("calls of the library were found", oneIf(called > 0), 1);
    }

    private static void bannedWords(String code) {
        due.about("6. No throw, try, catch, synchronized, assert");
        for (String banned : BANNED) {
            Matcher found = Pattern.compile(banned, Pattern.MULTILINE).matcher(code);
            due.is("'" + banned + "' in the source", found.find() ? found.group() : "", "");
        }
    }

    private static void constructorsHandOutNothing(String code) {
        due.about("12. A constructor calls no method that another class could override and hands out nothing of the object that it makes.");
        Matcher found = Pattern.compile("(?:[(,]|\\breturn\\b)\\s*this\\b").matcher(code);
        due.is("this is handed out", found.find() ? found.group() : "", "");
    }

    private static void sizes(String source) {
        due.about("11. A method takes at most seven parameters. Methods stay short (some sixty lines)");
        for (Class<?> one : MenuScreens.class.getNestMembers()) {
            for (Method m : one.getDeclaredMethods()) {
                due.is(m + " takes at most seven", Math.max(m.getParameterCount(), 7), 7);
            }
            for (Constructor<?> c : one.getDeclaredConstructors()) {
                due.is(c + " takes at most seven", Math.max(c.getParameterCount(), 7), 7);
            }
        }
        due.is("at most twelve classes", Math.max(MenuScreens.class.getNestMembers().length, 12), 12);
        List<String> methods = new ArrayList<>();
        Matcher method = Pattern.compile("(?ms)^( {4}| {8})(?! )(?![^\n]*\\bclass\\b)[^\n]*\\{$.*?^\\1\\}$").matcher(source);
        while (method.find()) {
            methods.add(method.group());
        }
        due.is("methods were found", oneIf(methods.size() > FACE.size()), 1);
        for (String one : methods) {
            String[] lines = one.split("\n");
            due.is(lines[0].trim() + " is short", Math.max(lines.length, LONGEST_METHOD), LONGEST_METHOD);
        }
        due.about("3. Texts hold characters 0 to 255 alone.");
        due.is("signs above 255", Arrays.toString(source.chars().filter(c -> c > 255).toArray()), "[]");
    }
}
