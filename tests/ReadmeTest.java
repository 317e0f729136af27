import java.io.IOException;
import java.lang.reflect.Method;
import java.lang.reflect.Modifier;
import java.net.URL;
import java.net.URLClassLoader;
import java.nio.file.Files;
import java.nio.file.Path;
import java.util.ArrayList;
import java.util.List;
import java.util.regex.Matcher;
import java.util.regex.Pattern;
import java.util.stream.Stream;
import javax.tools.ToolProvider;

/** README.md: its Java is compiled and run, and it names every call and every test. */
public final class ReadmeTest {
    private static final Path README = Path.of("README.md");
    private static final Pattern BLOCK = Pattern.compile("```java\n(.*?)```", Pattern.DOTALL);
    private static final Pattern ANSWERED = Pattern.compile("^(ring\\..*\\)); +// (-?[0-9]+)\\b.*$");

    public static void main(String[] args) throws Exception {
        Check t = new Check("ReadmeTest");
        String text = Files.readString(README);
        runExample(t, text);
        namesAll(t, text);
        t.close();
    }

    private static void runExample(Check t, String text) throws Exception {
        List<String> blocks = new ArrayList<>();
        Matcher m = BLOCK.matcher(text);
        while (m.find()) {
            blocks.add(m.group(1));
        }
        t.due("blocks of Java", blocks.size(), 2);
        List<String> calls = new ArrayList<>();
        List<Integer> due = new ArrayList<>();
        StringBuilder body = new StringBuilder();
        for (String line : blocks.get(1).split("\n")) {
            Matcher answered = ANSWERED.matcher(line);
            t.dueTrue("an answer stands behind <" + line + ">", answered.matches() || !line.startsWith("ring."));
            if (answered.matches()) {
                calls.add(answered.group(1));
                due.add(Integer.parseInt(answered.group(2)));
                body.append("answers.add(").append(answered.group(1)).append(");\n");
            } else {
                body.append(line).append("\n");
            }
        }
        List<?> answers = run("public final class Example {\n" + blocks.get(0)
                + "public static java.util.List<Integer> run() {\n"
                + "java.util.List<Integer> answers = new java.util.ArrayList<>();\n" + body + "return answers;\n}\n}\n");
        t.due("answers", answers.size(), due.size());
        for (int i = 0; i < answers.size() && i < due.size(); i++) {
            t.due(calls.get(i), (Integer) answers.get(i), due.get(i));
        }
    }

    private static List<?> run(String source) throws Exception {
        Path build = Files.createTempDirectory("readme");
        try {
            Path file = build.resolve("Example.java");
            Files.writeString(file, source);
            int failed = ToolProvider.getSystemJavaCompiler().run(null, null, null, "-proc:none", "-cp",
                    System.getProperty("java.class.path"), "-d", build.toString(), file.toString());
            if (failed != 0) {
                return List.of();
            }
            try (URLClassLoader loader = new URLClassLoader(new URL[] {build.toUri().toURL()})) {
                return (List<?>) loader.loadClass("Example").getMethod("run").invoke(null);
            }
        } finally {
            empty(build);
        }
    }

    private static void empty(Path build) throws IOException {
        try (Stream<Path> files = Files.list(build)) {
            for (Path file : files.toList()) {
                Files.delete(file);
            }
        }
        Files.delete(build);
    }

    private static void namesAll(Check t, String text) throws IOException {
        for (Method m : JumpRing.class.getDeclaredMethods()) {
            if (Modifier.isPublic(m.getModifiers())) {
                t.dueTrue("README names the call " + m.getName(), text.contains("`" + m.getName() + "`"));
            }
        }
        try (Stream<Path> files = Files.list(Path.of("tests"))) {
            for (Path file : files.toList()) {
                String name = file.getFileName().toString().replace(".java", "");
                boolean isTest = name.endsWith("Test");
                t.dueTrue("README names " + name, !isTest || text.contains("| `" + name + "` |"));
            }
        }
    }
}
