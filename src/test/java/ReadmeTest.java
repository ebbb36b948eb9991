import java.io.IOException;
import java.lang.reflect.Method;
import java.lang.reflect.Modifier;
import java.net.URL;
import java.net.URLClassLoader;
import java.nio.file.DirectoryStream;
import java.nio.file.Files;
import java.nio.file.Path;
import java.util.ArrayList;
import java.util.List;
import java.util.TreeSet;
import java.util.regex.Matcher;
import java.util.regex.Pattern;
import javax.tools.ToolProvider;

/** README.md says how to use the class and how to run its tests, and what it says is so. */
public final class ReadmeTest {
    private static final Path README = Path.of("README.md");
    private static final Path TESTS = Path.of("src/test/java");
    private static final Pattern EXAMPLE = Pattern.compile("```java\n(.*?)```", Pattern.DOTALL);
    private static final Pattern CLAIM = Pattern.compile("(x\\.(\\w+)\\(.*\\));\\s*// (-?\\d+|true|false): .*");
    private static int wrong = 0;

    public static void main(String[] args) throws Exception {
        check("README.md is there", Files.isRegularFile(README));
        if (wrong == 0) {
            String text = Files.readString(README);
            checkCalls(section(text, "Use"));
            checkTests(section(text, "Tests"));
            checkExamples(section(text, "Use"));
        }
        if (wrong > 0) {
            System.exit(1);
        }
    }

    private static String section(String text, String title) {
        Matcher found = Pattern.compile("^## " + title + "\n(.*?)(?=^## |\\z)", Pattern.DOTALL | Pattern.MULTILINE)
            .matcher(text);
        boolean isThere = found.find();
        check("there is a part with the title " + title, isThere);
        return isThere ? found.group(1) : "";
    }

    private static void checkCalls(String use) {
        check("it says how an object is made", use.contains("new ConditionText()"));
        for (String name : callNames()) {
            check("the table of calls has " + name, use.contains("\n| `" + name + "("));
        }
    }

    private static TreeSet<String> callNames() {
        TreeSet<String> names = new TreeSet<>();
        for (Method method : ConditionText.class.getDeclaredMethods()) {
            if (Modifier.isPublic(method.getModifiers())) {
                names.add(method.getName());
            }
        }
        return names;
    }

    private static void checkTests(String tests) throws IOException {
        check("it says what to run", tests.contains("\n    .ci/run\n") && Files.isRegularFile(Path.of(".ci/run")));
        check("it tells of ../shared/tests", tests.contains("`../shared/tests`"));
        try (DirectoryStream<Path> files = Files.newDirectoryStream(TESTS, "*.java")) {
            for (Path file : files) {
                String name = file.getFileName().toString().replace(".java", "");
                check("it tells of " + name, tests.contains("\n- `" + name + "`: "));
            }
        }
    }

    /** Every call stands in an example with its answer, so that a reader sees each of them at work. */
    private static void checkExamples(String use) throws Exception {
        TreeSet<String> shown = new TreeSet<>();
        Matcher example = EXAMPLE.matcher(use);
        int number = 0;
        while (example.find()) {
            number++;
            for (String line : run("Example" + number, example.group(1), shown)) {
                check(line, false);
            }
        }
        check("the examples show " + callNames() + ", not " + shown, shown.equals(callNames()));
    }

    /** Compiles an example, with each answer that it claims compared; the claims that do not hold. */
    private static List<String> run(String name, String example, TreeSet<String> shown) throws Exception {
        StringBuilder source = new StringBuilder();
        source.append("public final class ").append(name).append(" {\n");
        source.append("public static void run(java.util.List<String> wrong) {\n");
        for (String line : example.split("\n")) {
            Matcher claim = CLAIM.matcher(line);
            if (claim.matches()) {
                shown.add(claim.group(2));
                source.append("{ String got = String.valueOf(").append(claim.group(1)).append("); if (!got.equals(\"")
                    .append(claim.group(3)).append("\")) wrong.add(\"").append(claim.group(1))
                    .append(" answers \" + got + \", not ").append(claim.group(3)).append("\"); }\n");
            } else {
                source.append(line).append('\n');
            }
        }
        source.append("}\n}\n");
        return compileAndRun(name, source.toString());
    }

    private static List<String> compileAndRun(String name, String source) throws Exception {
        List<String> claims = new ArrayList<>();
        Path folder = Files.createTempDirectory("readme");
        Path file = folder.resolve(name + ".java");
        Path compiled = folder.resolve(name + ".class");
        Files.writeString(file, source);
        String path = System.getProperty("java.class.path");
        int answer = ToolProvider.getSystemJavaCompiler()
            .run(null, null, null, "-cp", path, "-d", folder.toString(), file.toString());
        if (answer == 0) {
            try (URLClassLoader loader = new URLClassLoader(new URL[] {folder.toUri().toURL()})) {
                loader.loadClass(name).getMethod("run", List.class).invoke(null, claims);
            }
        } else {
            claims.add(name + " does not compile");
        }
        Files.deleteIfExists(compiled);
        Files.deleteIfExists(file);
        Files.deleteIfExists(folder);
        return claims;
    }

    private static void check(String what, boolean holds) {
        if (!holds) {
            wrong++;
            System.out.println("not so in README.md: " + what);
        }
    }
}
