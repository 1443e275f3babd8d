import java.io.IOException;
import java.net.URL;
import java.net.URLClassLoader;
import java.nio.file.Files;
import java.nio.file.Path;
import java.util.ArrayList;
import java.util.List;
import java.util.regex.Matcher;
import java.util.regex.Pattern;
import javax.tools.ToolProvider;

/**
 * The example in README.md answers what it says: where a comment begins with a number, or with true
 * or false, that is what its call is to answer.
 */
public final class ReadmeTest {
    private static final Pattern TOLD = Pattern.compile("(desk\\..*);\\s*// (-?\\d+|true|false): .*");

    public static void main(String[] args) throws IOException, ReflectiveOperationException {
        List<String> body = new ArrayList<>();
        List<String> calls = new ArrayList<>();
        List<String> dues = new ArrayList<>();
        for (String line : example(Files.readAllLines(Path.of("README.md")))) {
            Matcher told = TOLD.matcher(line);
            if (told.matches()) {
                body.add("answers.add(String.valueOf(" + told.group(1) + "));");
                calls.add(told.group(1));
                dues.add(told.group(2));
            } else {
                body.add(line);
            }
        }
        List<String> answers = run(body);
        Check.due("README.md: calls that answered", answers.size(), calls.size());
        for (int k = 0; k < answers.size(); k++) {
            Check.due("README.md: " + calls.get(k), answers.get(k), dues.get(k));
        }
        Check.due("README.md has an example", calls.isEmpty() ? 0 : 1, 1);
        Check.end();
    }

    private static List<String> example(List<String> readme) {
        int start = readme.indexOf("```java");
        List<String> rest = readme.subList(start + 1, readme.size());
        return rest.subList(0, rest.indexOf("```"));
    }

    private static List<String> run(List<String> body) throws IOException, ReflectiveOperationException {
        Path directory = Files.createTempDirectory("readme");
        Path file = directory.resolve("Example.java");
        try {
            Files.writeString(file, "public final class Example {\n"
                    + "public static void run(java.util.List<String> answers) {\n" + String.join("\n", body) + "\n}\n}\n");
            int failed = ToolProvider.getSystemJavaCompiler().run(null, null, null, "-cp",
                    System.getProperty("java.class.path"), "-d", directory.toString(), file.toString());
            Check.due("README.md: the example compiles", failed, 0);
            return failed == 0 ? runExample(directory) : new ArrayList<>();
        } finally {
            Files.deleteIfExists(directory.resolve("Example.class"));
            Files.deleteIfExists(file);
            Files.deleteIfExists(directory);
        }
    }

    private static List<String> runExample(Path directory) throws IOException, ReflectiveOperationException {
        List<String> answers = new ArrayList<>();
        try (URLClassLoader loader = new URLClassLoader(new URL[] {directory.toUri().toURL()})) {
            loader.loadClass("Example").getMethod("run", List.class).invoke(null, answers);
        }
        return answers;
    }
}
