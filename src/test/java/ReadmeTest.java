import java.io.IOException;
import java.net.URL;
import java.net.URLClassLoader;
import java.nio.file.Files;
import java.nio.file.Path;
import java.util.ArrayList;
import java.util.Comparator;
import java.util.List;
import java.util.TreeSet;
import java.util.regex.Matcher;
import java.util.regex.Pattern;
import java.util.stream.Stream;
import javax.tools.ToolProvider;

/** The README: its example answers what it says, and its tables have the calls and the lines that there are. */
public final class ReadmeTest {
    private static final Due due = new Due();
    private static final Pattern EXAMPLE = Pattern.compile("(?s)```java\n(.*?)```");
    private static final Pattern ANSWER = Pattern.compile("^(car\\.(\\w+)\\(.*?\\)); +// (-?\\d+|'.')(?=:|$)");
    private static final Pattern CALL_OF_TABLE = Pattern.compile("(?m)^\\| `([^`]*\\([^`]*\\))` \\|");
    private static final Pattern LINE_OF_TABLE = Pattern.compile("(?m)^\\| `([^`(]*)` \\|");

    public static void main(String[] args) throws Exception {
        String readme = Files.readString(Path.of("README.md"));
        Matcher example = EXAMPLE.matcher(readme);
        due.is("there is an example", example.find() ? 1 : 0, 1);
        answersOf(example.group(1));
        calls(readme);
        lines(readme);
        tests(readme);
        due.end();
    }

    private static void answersOf(String example) throws Exception {
        List<String> asked = new ArrayList<>();
        List<Long> wanted = new ArrayList<>();
        StringBuilder code = new StringBuilder("public final class Example { public static void run(java.util.List<Long> got) {\n");
        for (String line : example.split("\n")) {
            Matcher call = ANSWER.matcher(line);
            if (call.find()) {
                asked.add(call.group(1));
                String answer = call.group(3);
                wanted.add(answer.startsWith("'") ? answer.charAt(1) : Long.parseLong(answer));
                code.append("got.add((long) ").append(call.group(1)).append(");\n");
            } else {
                due.is("an answer stands behind " + line, line.startsWith("car.") ? 1 : 0, 0);
                code.append(line).append('\n');
            }
        }
        List<Long> got = run(code.append("} }\n").toString());
        due.is("calls of the example that were run", got.size(), asked.size());
        for (int i = 0; i < got.size(); i++) {
            due.is(asked.get(i), got.get(i), wanted.get(i));
        }
        due.is("the example has calls", Math.min(asked.size(), 20), 20);
    }

    private static List<Long> run(String code) throws Exception {
        Path folder = Files.createTempDirectory("readme");
        try {
            Path source = Files.writeString(folder.resolve("Example.java"), code);
            int failed = ToolProvider.getSystemJavaCompiler().run(null, null, null, "-cp",
                    System.getProperty("java.class.path"), "-d", folder.toString(), source.toString());
            due.is("the example compiles", failed, 0);
            List<Long> got = new ArrayList<>();
            if (failed == 0) {
                try (URLClassLoader loader = new URLClassLoader(new URL[] {folder.toUri().toURL()})) {
                    loader.loadClass("Example").getMethod("run", List.class).invoke(null, got);
                }
            }
            return got;
        } finally {
            remove(folder);
        }
    }

    private static void remove(Path folder) throws IOException {
        try (Stream<Path> all = Files.walk(folder)) {
            for (Path one : all.sorted(Comparator.reverseOrder()).toList()) {
                Files.delete(one);
            }
        }
    }

    private static void calls(String readme) {
        TreeSet<String> written = new TreeSet<>();
        CALL_OF_TABLE.matcher(readme).results().forEach(row -> written.add(Face.withoutNames(row.group(1))));
        due.is("calls in the table", written.toString(), Face.signatures().toString());
    }

    /** Each kind of line in the table, with words put for those that stand for others. */
    private static void lines(String readme) {
        List<String> kinds = new ArrayList<>();
        LINE_OF_TABLE.matcher(readme).results().forEach(row -> kinds.add(row.group(1)));
        due.is("kinds of lines", kinds.size(), 9);
        for (String kind : kinds) {
            String line = kind.replace("low high v", "0 9 4").replace("say r c WORD WORD", "say 0 0 ONE TWO")
                    .replace(" r c ", " 0 0 ").replace(" n NAME", " 3 known").replace("if NAME op NUMBER", "if known = 5")
                    .replace("key k NAME", "key 1 home").replace("bar v", "bar 5").replace("screen NAME", "screen other\nkey 1 home");
            int screens = line.startsWith("screen") ? 2 : 1;
            due.reads(screens, "name known", "screen home", line.replace("NAME", "fresh"));
            due.reads(-4, "name known", "screen home", line.replace("NAME", "fresh").split("\n")[0] + " more");
        }
    }

    private static void tests(String readme) throws IOException {
        try (Stream<Path> all = Files.list(Path.of("src/test/java"))) {
            for (Path test : all.sorted().toList()) {
                due.is(test + " is told of", readme.contains(test.getFileName().toString()) ? 1 : 0, 1);
            }
        }
    }
}
