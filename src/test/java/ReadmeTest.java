import java.io.File;
import java.lang.reflect.Field;
import java.lang.reflect.Method;
import java.lang.reflect.Modifier;
import java.net.URL;
import java.net.URLClassLoader;
import java.nio.file.Files;
import java.nio.file.Path;
import java.util.ArrayList;
import java.util.List;
import java.util.regex.Matcher;
import java.util.regex.Pattern;
import javax.tools.ToolProvider;

/** README.md as it stands: its example answers what it says, and it names each call, constant and test. */
public final class ReadmeTest {
    private static final Path PAGE = Path.of("README.md"), TESTS = Path.of("src/test/java");
    private static final Pattern BLOCK = Pattern.compile("```java\n(.*?)```", Pattern.DOTALL);
    /** A call with what it answers behind it. */
    private static final Pattern ANSWERED = Pattern.compile("(x\\.\\w+\\(.*\\)); *// (-?\\d+): .*");

    public static void main(String[] args) throws Exception {
        String page = Files.readString(PAGE);
        example(page);
        names(page);
        Check.end();
    }

    private static void example(String page) throws Exception {
        Matcher block = BLOCK.matcher(page);
        Check.due("there is an example", block.find() ? 1 : 0, 1);
        List<String> calls = new ArrayList<>();
        List<Long> told = new ArrayList<>();
        StringBuilder body = new StringBuilder();
        for (String line : block.group(1).split("\n")) {
            Matcher answered = ANSWERED.matcher(line);
            if (answered.matches()) {
                calls.add(answered.group(1));
                told.add(Long.parseLong(answered.group(2)));
                body.append("answers.add((long) ").append(answered.group(1)).append(");\n");
            } else {
                body.append(line).append('\n');
            }
        }
        Check.due("answers are told", calls.size() >= 10 ? 1 : 0, 1);
        List<?> answers = run(body.toString());
        Check.due("how many answers", answers.size(), calls.size());
        for (int k = 0; k < answers.size(); k++) {
            Check.due("the example's " + calls.get(k), (Long) answers.get(k), told.get(k));
        }
    }

    private static List<?> run(String body) throws Exception {
        Path made = Files.createTempDirectory("readme");
        Path source = made.resolve("Example.java");
        Path compiled = made.resolve("Example.class");
        Files.writeString(source, "import java.util.*; public class Example { public static List<Long> answers() {"
            + "List<Long> answers = new ArrayList<>();\n" + body + "return answers; } }");
        String path = System.getProperty("java.class.path");
        int failed = ToolProvider.getSystemJavaCompiler().run(null, null, null, "-cp", path, "-d", made.toString(), source.toString());
        Check.due("the example is compiled", failed, 0);
        try (URLClassLoader loader = new URLClassLoader(new URL[] {made.toUri().toURL()})) {
            return failed == 0 ? (List<?>) loader.loadClass("Example").getMethod("answers").invoke(null) : List.of();
        } finally {
            Files.deleteIfExists(source);
            Files.deleteIfExists(compiled);
            Files.deleteIfExists(made);
        }
    }

    private static void names(String page) {
        for (Method method : RowBack.class.getDeclaredMethods()) {
            if (Modifier.isPublic(method.getModifiers())) named(page, "`" + method.getName() + "(");
        }
        for (Field field : RowBack.class.getDeclaredFields()) {
            if (Modifier.isPublic(field.getModifiers())) named(page, "`" + field.getName() + "`");
        }
        for (File test : TESTS.toFile().listFiles()) {
            if (test.getName().endsWith("Test.java")) named(page, "| `" + test.getName().replace(".java", "") + "` |");
        }
    }

    private static void named(String page, String words) {
        Check.due("README.md names " + words, page.contains(words) ? 1 : 0, 1);
    }
}
