import java.io.IOException;
import java.net.URL;
import java.net.URLClassLoader;
import java.nio.file.Files;
import java.nio.file.Path;
import java.util.ArrayList;
import java.util.List;
import java.util.function.Supplier;
import java.util.regex.Matcher;
import java.util.regex.Pattern;
import javax.tools.ToolProvider;

/** The examples of README.md, one behind the other, answer what stands behind them. */
public final class ReadmeTest {
    private static final Pattern BLOCK = Pattern.compile("```java\n(.*?)```", Pattern.DOTALL);
    private static final Pattern EXAMPLE = Pattern.compile("(.*); +// (.*)");

    private final StringBuilder methods = new StringBuilder();
    private final StringBuilder calls = new StringBuilder();
    private final List<String> asked = new ArrayList<>();
    private final List<String> due = new ArrayList<>();

    public static void main(String[] args) throws Exception {
        new ReadmeTest().run();
        Bench.end("ReadmeTest");
    }

    private void run() throws Exception {
        take(Files.readString(Path.of("README.md")));
        Bench.due("more than 40 examples", due.size() > 40, true);
        List<?> got = answers();
        Bench.due("answers", got.size(), due.size());
        for (int i = 0; i < Math.min(got.size(), due.size()); i++) {
            Bench.due(asked.get(i), got.get(i), due.get(i));
        }
    }

    private void take(String readme) {
        Matcher blocks = BLOCK.matcher(readme);
        while (blocks.find()) {
            if (blocks.group(1).startsWith("static")) {
                methods.append(blocks.group(1));
            } else {
                blocks.group(1).lines().forEach(this::takeLine);
            }
        }
    }

    private void takeLine(String line) {
        Matcher example = EXAMPLE.matcher(line);
        if (!example.matches()) {
            calls.append(line).append('\n');
            return;
        }
        asked.add(example.group(1));
        due.add(example.group(2).replaceAll(": .*", ""));
        calls.append("try { got.add(String.valueOf(").append(example.group(1))
            .append(").replace(\"\\n\", \"\\\\n\")); } catch (RuntimeException e) {")
            .append("got.add(\"throws \" + e.getClass().getSimpleName()); }\n");
    }

    private List<?> answers() throws Exception {
        Path room = Files.createTempDirectory("readme");
        try {
            Path source = room.resolve("Examples.java");
            Files.writeString(source, "import java.util.*;\n"
                + "public final class Examples implements java.util.function.Supplier<List<String>> {\n"
                + methods + "public List<String> get() {\nList<String> got = new ArrayList<>();\n"
                + calls + "return got;\n}\n}\n");
            String path = System.getProperty("java.class.path");
            int answer = ToolProvider.getSystemJavaCompiler().run(null, null, null, "-cp", path, "-d", room.toString(),
                source.toString());
            Bench.due("the examples compile", answer, 0);
            return answer == 0 ? answersOf(room) : List.of();
        } finally {
            empty(room);
        }
    }

    private static List<?> answersOf(Path room) throws Exception {
        try (URLClassLoader loader = new URLClassLoader(new URL[] {room.toUri().toURL()})) {
            Supplier<?> examples = (Supplier<?>) loader.loadClass("Examples").getDeclaredConstructor().newInstance();
            return (List<?>) examples.get();
        }
    }

    private static void empty(Path room) throws IOException {
        Files.deleteIfExists(room.resolve("Examples.java"));
        Files.deleteIfExists(room.resolve("Examples.class"));
        Files.delete(room);
    }
}
