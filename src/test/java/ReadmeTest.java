import java.io.IOException;
import java.lang.reflect.Method;
import java.net.URL;
import java.net.URLClassLoader;
import java.nio.charset.StandardCharsets;
import java.nio.file.Files;
import java.nio.file.Path;
import java.util.ArrayList;
import java.util.List;
import java.util.regex.Matcher;
import java.util.regex.Pattern;
import javax.tools.JavaCompiler;
import javax.tools.ToolProvider;

/** Compiles the example of README.md and compares its answers with those that its comments tell. */
public final class ReadmeTest {
    private static final Path README = Path.of("README.md");
    /** A call that may fill a variable, and behind "// " the number that it answers. */
    private static final Pattern ANSWERED =
        Pattern.compile("(?:int (\\w+) = )?(archive\\.\\w+\\(.*\\));\\s+// (-?\\d+(?:\\.\\d+)?).*");

    /** The example as a class whose method puts the answers into a list. */
    private final StringBuilder code = new StringBuilder();
    private final List<String> calls = new ArrayList<>();
    private final List<Double> due = new ArrayList<>();

    private ReadmeTest() {
    }

    public static void main(String[] args) throws IOException, ReflectiveOperationException {
        Check check = new Check();
        check.begin("README.md");
        ReadmeTest test = new ReadmeTest();
        test.write(test.example());
        List<Double> got = test.answers(check);
        check.due("the number of answers", got.size(), test.due.size());
        for (int i = 0; i < Math.min(got.size(), test.due.size()); i++) {
            check.due(test.calls.get(i), got.get(i), test.due.get(i));
        }
        check.holds("the example tells answers", !test.due.isEmpty());
        check.end();
    }

    private List<String> example() throws IOException {
        List<String> all = Files.readAllLines(README, StandardCharsets.UTF_8);
        int start = all.indexOf("```java") + 1;
        List<String> rest = all.subList(start, all.size());
        return rest.subList(0, rest.indexOf("```"));
    }

    private void write(List<String> example) {
        code.append("public final class Example {\n");
        code.append("public static void go(java.util.List<Double> answers) {\n");
        for (String line : example) {
            Matcher answered = ANSWERED.matcher(line);
            if (answered.matches()) {
                writeAnswered(answered.group(1), answered.group(2), answered.group(3));
            } else {
                code.append(line).append('\n');
            }
        }
        code.append("}\n}\n");
    }

    private void writeAnswered(String variable, String call, String number) {
        String answer = call;
        if (variable != null) {
            code.append("int ").append(variable).append(" = ").append(call).append(";\n");
            answer = variable;
        }
        code.append("answers.add((double) ").append(answer).append(");\n");
        calls.add(call);
        due.add(Double.valueOf(number));
    }

    private List<Double> answers(Check check) throws IOException, ReflectiveOperationException {
        List<Double> answers = new ArrayList<>();
        Path place = Files.createTempDirectory("readme");
        Path source = place.resolve("Example.java");
        Path compiled = place.resolve("Example.class");
        try {
            Files.writeString(source, code, StandardCharsets.UTF_8);
            JavaCompiler compiler = ToolProvider.getSystemJavaCompiler();
            int failed = compiler.run(null, null, null, "-cp", System.getProperty("java.class.path"),
                "-d", place.toString(), source.toString());
            check.due("what the compiler answers to the example", failed, 0);
            if (failed == 0) {
                go(place, answers);
            }
        } finally {
            Files.deleteIfExists(source);
            Files.deleteIfExists(compiled);
            Files.deleteIfExists(place);
        }
        return answers;
    }

    private static void go(Path place, List<Double> answers) throws IOException, ReflectiveOperationException {
        try (URLClassLoader loader = new URLClassLoader(new URL[] {place.toUri().toURL()})) {
            Method go = loader.loadClass("Example").getMethod("go", List.class);
            go.invoke(null, answers);
        }
    }
}
