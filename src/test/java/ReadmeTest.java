import java.io.IOException;
import java.lang.reflect.Method;
import java.lang.reflect.Modifier;
import java.net.URL;
import java.net.URLClassLoader;
import java.nio.file.Files;
import java.nio.file.Path;
import java.util.ArrayList;
import java.util.List;
import java.util.regex.Matcher;
import java.util.regex.Pattern;
import javax.tools.ToolProvider;

/** What README.md shows is so: its example compiles and answers as its comments say, and it tells every call of the face. */
final class ReadmeTest {
    private static final Pattern EXAMPLE = Pattern.compile("(?s)```java\\n(.*?)```");
    /** A call whose comment begins with its answer, as in "x.holds(0);  // 1: it holds", or with what it throws. */
    private static final Pattern TOLD = Pattern.compile("(x\\.\\w+\\(.*\\)); +// (throws \\w+|-?\\d+): .*");

    private final List<String> calls = new ArrayList<>();
    private final List<String> due = new ArrayList<>();

    public static void main(String[] args) throws IOException, ReflectiveOperationException {
        Check.isSo("that the class's path is told", args.length > 0);
        if (args.length > 0) {
            Path main = Path.of(args[0]).toAbsolutePath();
            new ReadmeTest().look(Files.readString(main.resolve("../../../../README.md").normalize()));
        }
        Check.end();
    }

    private void look(String text) throws IOException, ReflectiveOperationException {
        for (Method m : SignatureSpans.class.getDeclaredMethods()) {
            if (Modifier.isPublic(m.getModifiers())) {
                Check.isSo("that it tells " + m.getName(), text.contains("`" + m.getName() + "("));
            }
        }
        Matcher example = EXAMPLE.matcher(text);
        boolean found = example.find();
        Check.isSo("that it has an example", found);
        if (!found) {
            return;
        }
        List<?> answers = answersOf(programOf(example.group(1)));
        Check.isSo("that the example tells answers", !due.isEmpty());
        Check.due("the example's calls that answered", answers.size(), due.size());
        for (int n = 0; n < answers.size() && n < due.size(); n++) {
            Check.isSo(calls.get(n) + " answered " + answers.get(n) + ", that it is " + due.get(n), due.get(n).equals(answers.get(n)));
        }
    }

    /** The class uses nothing of the tests, because another loader brings it. */
    private String programOf(String example) {
        StringBuilder program = new StringBuilder("public final class ReadmeExample {\n"
                + "    public static java.util.List<String> run() {\n"
                + "        java.util.List<String> answers = new java.util.ArrayList<>();\n");
        for (String line : example.split("\n")) {
            Matcher told = TOLD.matcher(line.trim());
            if (!told.matches()) {
                program.append(line).append('\n');
                continue;
            }
            calls.add(told.group(1));
            due.add(told.group(2));
            program.append("try { answers.add(String.valueOf(").append(told.group(1)).append(")); }")
                    .append(" catch (RuntimeException e) { answers.add(\"throws \" + e.getClass().getSimpleName()); }\n");
        }
        return program.append("        return answers;\n    }\n}\n").toString();
    }

    private static List<?> answersOf(String program) throws IOException, ReflectiveOperationException {
        Path out = Files.createTempDirectory("readme");
        Path file = out.resolve("ReadmeExample.java");
        Files.writeString(file, program);
        int result = ToolProvider.getSystemJavaCompiler().run(null, null, null,
                "-cp", System.getProperty("java.class.path"), "-d", out.toString(), file.toString());
        Check.due("the compiler, over the example,", result, 0);
        List<?> answers = List.of();
        if (result == 0) {
            try (URLClassLoader loader = new URLClassLoader(new URL[] {out.toUri().toURL()})) {
                answers = (List<?>) loader.loadClass("ReadmeExample").getDeclaredMethod("run").invoke(null);
            }
        }
        Files.deleteIfExists(out.resolve("ReadmeExample.class"));
        Files.deleteIfExists(file);
        Files.deleteIfExists(out);
        return answers;
    }
}
