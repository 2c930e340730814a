import java.io.IOException;
import java.net.URL;
import java.net.URLClassLoader;
import java.nio.file.Files;
import java.nio.file.Path;
import java.util.ArrayList;
import java.util.List;
import java.util.regex.Matcher;
import java.util.regex.Pattern;
import javax.tools.ToolProvider;

/** Runs the example of README.md and holds each call against the answer that stands with it. */
public final class ReadmeTest {
    private static final Pattern BLOCK = Pattern.compile("```java\n(.*?)```", Pattern.DOTALL);
    private static final Pattern ANSWERED = Pattern.compile("(foot\\.\\w+\\(.*\\)); +// (-?\\d+|true|false): .*");

    public static void main(String[] args) throws Exception {
        String readme = Files.readString(Path.of("README.md"));
        List<String> blocks = new ArrayList<>();
        Matcher matcher = BLOCK.matcher(readme);
        while (matcher.find()) {
            blocks.add(matcher.group(1));
        }
        Check.due("blocks of Java in README.md", blocks.size(), 2);
        if (blocks.size() == 2) {
            run(example(blocks.get(0), blocks.get(1)));
        }
        Check.end();
    }

    /** A class whose answers() gives each call, what it answers, and what README.md says of it. */
    private static String example(String helpers, String statements) {
        StringBuilder text = new StringBuilder("public final class Example {\n");
        text.append("static long number(long answer) { return answer; }\n");
        text.append("static long number(boolean answer) { return answer ? 1 : 0; }\n");
        text.append(helpers).append("public static java.util.List<Object[]> answers() {\n");
        text.append("java.util.List<Object[]> rows = new java.util.ArrayList<>();\n");
        for (String line : statements.split("\n")) {
            Matcher answered = ANSWERED.matcher(line);
            text.append(answered.matches() ? row(answered.group(1), answered.group(2)) : line).append("\n");
        }
        return text.append("return rows;\n}\n}\n").toString();
    }

    private static String row(String call, String want) {
        return "rows.add(new Object[] {\"" + call + "\", number(" + call + "), number(" + want + ")});";
    }

    private static void run(String example) throws Exception {
        Path folder = Files.createTempDirectory("readme");
        Path source = folder.resolve("Example.java");
        try {
            Files.writeString(source, example);
            int fault = ToolProvider.getSystemJavaCompiler().run(null, null, null, "-proc:none", "-cp",
                System.getProperty("java.class.path"), "-d", folder.toString(), source.toString());
            Check.due("compiling the example", fault, 0);
            if (fault == 0) {
                call(folder);
            }
        } finally {
            remove(folder);
        }
    }

    private static void call(Path folder) throws Exception {
        URL[] places = {folder.toUri().toURL()};
        try (URLClassLoader loader = new URLClassLoader(places, ReadmeTest.class.getClassLoader())) {
            List<?> rows = (List<?>) loader.loadClass("Example").getMethod("answers").invoke(null);
            Check.due("calls of the example with an answer", rows.size() > 20, true);
            for (Object row : rows) {
                Object[] parts = (Object[]) row;
                Check.due("README.md: " + parts[0], (Long) parts[1], (Long) parts[2]);
            }
        }
    }

    private static void remove(Path folder) throws IOException {
        for (String name : List.of("Example.java", "Example.class")) {
            Files.deleteIfExists(folder.resolve(name));
        }
        Files.delete(folder);
    }
}
