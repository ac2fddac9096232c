import java.io.File;
import java.io.IOException;
import java.lang.reflect.Field;
import java.lang.reflect.Method;
import java.lang.reflect.Modifier;
import java.nio.file.Files;
import java.nio.file.Path;
import java.util.regex.Matcher;
import java.util.regex.Pattern;
import javax.tools.ToolProvider;

/** README.md names all there is to use and to run, and its example answers as it says. */
public final class ReadmeTest {
    private static final Pattern EXAMPLE = Pattern.compile("```java\n(.*?)```", Pattern.DOTALL);
    private static final Pattern ANSWER = Pattern.compile("^(gate\\..*);\\s*// = ([\\w.-]+).*$", Pattern.MULTILINE);

    public static void main(String[] args) throws IOException, ReflectiveOperationException {
        String readme = Files.readString(Path.of("README.md"));
        namesTheFace(readme);
        namesTheTests(readme);
        exampleHolds(readme);
        Check.end("ReadmeTest");
    }

    private static void dueNamed(String readme, String name) {
        Check.due(name, readme.contains(name) ? "is named" : "is not named", "is named");
    }

    private static void namesTheFace(String readme) {
        for (Method method : SessionGate.class.getDeclaredMethods()) {
            if (Modifier.isPublic(method.getModifiers())) {
                dueNamed(readme, "| `" + method.getName() + "(");
            }
        }
        for (Field field : SessionGate.class.getFields()) {
            dueNamed(readme, "`" + field.getName() + "`");
        }
    }

    private static void namesTheTests(String readme) {
        dueNamed(readme, "\n.ci/run\n");
        for (String file : new File("src/test/java").list()) {
            if (!file.equals("Sentence.java")) {
                dueNamed(readme, "`" + file.replace(".java", "") + "`");
            }
        }
    }

    private static void exampleHolds(String readme) throws IOException, ReflectiveOperationException {
        Matcher example = EXAMPLE.matcher(readme);
        Check.due("an example", example.find() ? "is there" : "is not there", "is there");
        Matcher answers = ANSWER.matcher(example.group(1));
        Check.due("answers in the example", answers.results().count() > 0 ? "some" : "none", "some");
        runLines(answers.replaceAll("Check.due(\"$1\", $1, $2);"));
    }

    // Beside the test's own classes, so that the example has the same Check and goes away with them.
    private static void runLines(String lines) throws IOException, ReflectiveOperationException {
        String classes = System.getProperty("java.class.path");
        Path source = Path.of(classes, "Example.java");
        Files.writeString(source, "public class Example { public static void run() {\n" + lines + "} }\n");
        int compiled = ToolProvider.getSystemJavaCompiler().run(null, null, null,
                "-cp", classes, "-d", classes, source.toString());
        Check.due("compiling the example", compiled, 0);
        Class.forName("Example").getMethod("run").invoke(null);
    }
}
