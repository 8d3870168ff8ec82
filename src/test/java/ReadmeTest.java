import java.io.IOException;
import java.lang.reflect.Method;
import java.lang.reflect.Modifier;
import java.net.URL;
import java.net.URLClassLoader;
import java.nio.file.Files;
import java.nio.file.Path;
import java.util.ArrayList;
import java.util.List;
import java.util.TreeSet;
import java.util.regex.Matcher;
import java.util.regex.Pattern;
import java.util.stream.Stream;
import javax.tools.JavaCompiler;
import javax.tools.ToolProvider;

/** What README.md shows: its parts in Java are compiled as they stand there, and run in their order. */
public final class ReadmeTest {
    private static final Path README = Path.of("README.md");
    private static final Path TESTS = Path.of("src/test/java");
    private static final Pattern PART = Pattern.compile("```java\n(.*?)```", Pattern.DOTALL);
    private static final Pattern CALL = Pattern.compile("x\\.(\\w+)\\(.*");
    private static final Pattern ANSWERED =
            Pattern.compile("(x\\.\\w+\\(.*\\)); *// (-?\\d+|true|false|throws \\w+)(: .*)?");
    /** It answers nothing, so nothing stands behind it. */
    private static final String SILENT = "image";

    private static final String HEAD = """
            public final class ReadmeCalls {
                private static final java.util.List<String> GOT = new java.util.ArrayList<>();
                private static void put(java.util.concurrent.Callable<Object> call) {
                    try {
                        GOT.add(String.valueOf(call.call()));
                    } catch (Exception e) {
                        GOT.add("throws " + e.getClass().getSimpleName());
                    }
                }
            """;

    private final StringBuilder methods = new StringBuilder();
    private final StringBuilder statements = new StringBuilder();
    private final List<String> calls = new ArrayList<>();
    private final List<String> answers = new ArrayList<>();
    private final TreeSet<String> shown = new TreeSet<>();

    public static void main(String[] args) throws Exception {
        String readme = Files.readString(README);
        ReadmeTest t = new ReadmeTest();
        t.take(readme);
        t.run();
        t.showsEachMethod();
        namesEachTest(readme);
        Check.end();
    }

    private void take(String readme) {
        Matcher part = PART.matcher(readme);
        while (part.find()) {
            if (part.group(1).startsWith("static ")) {
                methods.append(part.group(1));
            } else {
                part.group(1).lines().forEach(this::takeLine);
            }
        }
    }

    private void takeLine(String line) {
        Matcher call = CALL.matcher(line);
        Matcher answered = ANSWERED.matcher(line);
        if (!call.matches()) {
            statements.append(line).append('\n');
            return;
        }
        shown.add(call.group(1));
        if (answered.matches()) {
            calls.add(answered.group(1));
            answers.add(answered.group(2));
            statements.append("put(() -> ").append(answered.group(1)).append(");\n");
        } else {
            Check.same("README.md: " + line + ": what has no answer behind it", SILENT, call.group(1));
            statements.append(line).append('\n');
        }
    }

    private void run() throws Exception {
        Path dir = Files.createTempDirectory("readme");
        try {
            compile(dir);
            List<String> got = runIn(dir);
            Check.due("README.md: calls that were run", calls.size(), got::size);
            for (int i = 0; i < calls.size() && i < got.size(); i++) {
                Check.same("README.md: " + calls.get(i), answers.get(i), got.get(i));
            }
        } finally {
            empty(dir);
        }
    }

    private void compile(Path dir) throws IOException {
        Path source = dir.resolve("ReadmeCalls.java");
        Files.writeString(source, HEAD + methods + "public static java.util.List<String> run() {\n"
                + statements + "return GOT;\n}\n}\n");
        JavaCompiler compiler = ToolProvider.getSystemJavaCompiler();
        int code = compiler.run(null, null, null, "-cp", System.getProperty("java.class.path"),
                "-d", dir.toString(), source.toString());
        Check.due("README.md: compiling its parts", 0, () -> code);
    }

    private static List<String> runIn(Path dir) throws Exception {
        List<String> got = new ArrayList<>();
        if (Files.exists(dir.resolve("ReadmeCalls.class"))) {
            URL[] where = {dir.toUri().toURL()};
            try (URLClassLoader loader = new URLClassLoader(where, ReadmeTest.class.getClassLoader())) {
                Object answers = loader.loadClass("ReadmeCalls").getMethod("run").invoke(null);
                for (Object answer : (List<?>) answers) {
                    got.add(String.valueOf(answer));
                }
            }
        }
        return got;
    }

    private static void empty(Path dir) throws IOException {
        try (Stream<Path> files = Files.list(dir)) {
            for (Path file : files.toList()) {
                Files.delete(file);
            }
        }
        Files.delete(dir);
    }

    private void showsEachMethod() {
        TreeSet<String> face = new TreeSet<>();
        for (Method m : GoatDoors.class.getDeclaredMethods()) {
            if (Modifier.isPublic(m.getModifiers())) {
                face.add(m.getName());
            }
        }
        Check.same("README.md: the methods that it shows", face.toString(), shown.toString());
    }

    private static void namesEachTest(String readme) throws IOException {
        try (Stream<Path> files = Files.list(TESTS)) {
            for (Path file : files.toList()) {
                String name = file.getFileName().toString().replace(".java", "");
                Check.same("README.md names " + name, "true", Boolean.toString(readme.contains("`" + name + "`")));
            }
        }
    }
}
