import java.io.IOException;
import java.lang.reflect.Method;
import java.lang.reflect.Modifier;
import java.net.URL;
import java.net.URLClassLoader;
import java.nio.file.Files;
import java.nio.file.Path;
import java.util.ArrayList;
import java.util.List;
import java.util.regex.Matcher;
import java.util.regex.Pattern;
import javax.tools.ToolProvider;

/** The example of README.md compiles as it stands, has every call of the face, and each answer told behind a call. */
public final class ReadmeTest {
    private static final Pattern TOLD = Pattern.compile("(\\S.*);\\s+// (throws \\w+|-?\\d+|true|false): .*");
    private static final String EXAMPLE = "ReadmeExample";

    private final Due due = new Due();
    private final List<String> calls = new ArrayList<>();
    private final List<String> answers = new ArrayList<>();
    private final StringBuilder body = new StringBuilder();

    public static void main(String[] args) throws Exception {
        ReadmeTest test = new ReadmeTest();
        List<String> lines = exampleIn(Files.readAllLines(Path.of("README.md")));
        lines.forEach(test::take);
        test.compareAnswers();
        test.lookForEveryCall(lines);
        test.due.end();
    }

    private static List<String> exampleIn(List<String> readme) {
        int begin = readme.indexOf("```java");
        List<String> rest = readme.subList(begin + 1, readme.size());
        return rest.subList(0, rest.indexOf("```"));
    }

    private void take(String line) {
        Matcher told = TOLD.matcher(line);
        if (told.matches()) {
            calls.add(told.group(1));
            answers.add(told.group(2));
            body.append("try { got.add(String.valueOf(").append(told.group(1)).append(")); }")
                    .append(" catch (RuntimeException e) { got.add(\"throws \" + e.getClass().getSimpleName()); }\n");
        } else {
            body.append(line).append('\n');
        }
    }

    private void compareAnswers() throws Exception {
        List<?> got = answersOfExample();
        due.compare("README.md: how many answers", String.valueOf(answers.size()), String.valueOf(got.size()));
        for (int k = 0; k < answers.size(); k++) {
            due.compare("README.md: " + calls.get(k), answers.get(k), String.valueOf(got.get(k)));
        }
    }

    private List<?> answersOfExample() throws Exception {
        Path directory = Files.createTempDirectory("readme");
        try {
            compile(directory);
            try (URLClassLoader loader = new URLClassLoader(new URL[] {directory.toUri().toURL()})) {
                return (List<?>) loader.loadClass(EXAMPLE).getMethod("answers").invoke(null);
            }
        } finally {
            remove(directory);
        }
    }

    private void compile(Path directory) throws IOException {
        Path source = directory.resolve(EXAMPLE + ".java");
        Files.writeString(source, "public class " + EXAMPLE + " {\npublic static java.util.List<String> answers() {\n"
                + "java.util.List<String> got = new java.util.ArrayList<>();\n" + body + "return got;\n}\n}\n");
        int ended = ToolProvider.getSystemJavaCompiler().run(null, null, null, "-cp",
                System.getProperty("java.class.path"), "-d", directory.toString(), source.toString());
        due.compare("README.md: compiling the example ended with", "0", String.valueOf(ended));
    }

    private static void remove(Path directory) throws IOException {
        for (String end : new String[] {".java", ".class"}) {
            Files.deleteIfExists(directory.resolve(EXAMPLE + end));
        }
        Files.delete(directory);
    }

    /** A call with an answer must tell it in the form that is looked at, or else nothing would look at it. */
    private void lookForEveryCall(List<String> lines) {
        for (Method m : PairedTexts.class.getDeclaredMethods()) {
            if (Modifier.isPublic(m.getModifiers())) {
                long shown = callsOf(m, lines);
                due.compare("README.md: has the call " + m.getName(), "true", String.valueOf(shown > 0));
                long told = m.getReturnType() == void.class ? 0 : shown;
                due.compare("README.md: answers told of " + m.getName(), told + "", callsOf(m, calls) + "");
            }
        }
    }

    private static long callsOf(Method m, List<String> lines) {
        return lines.stream().filter(line -> line.startsWith("x." + m.getName() + "(")).count();
    }
}
