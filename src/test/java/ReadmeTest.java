import java.net.URL;
import java.net.URLClassLoader;
import java.nio.file.Files;
import java.nio.file.Path;
import java.util.ArrayList;
import java.util.List;
import java.util.regex.Matcher;
import java.util.regex.Pattern;
import java.util.spi.ToolProvider;

/** The Java of README.md is compiled and run: each call there answers the number behind its slashes. */
public final class ReadmeTest {
    private static final Pattern BLOCK = Pattern.compile("```java\\n(.*?)```", Pattern.DOTALL);
    private static final Pattern TOLD = Pattern.compile("(x\\.\\w+\\(.*\\)); +// (-?\\d+): .*");

    private static int told = 0;
    private static int wrong = 0;

    /** Called by what is made of README.md. */
    public static void due(String call, int got, int want) {
        told++;
        if (got != want) {
            wrong++;
            System.out.println("README.md: " + call + " answered " + got + ", told is " + want);
        }
    }

    public static void main(String[] args) throws Exception {
        List<String> blocks = new ArrayList<>();
        Matcher m = BLOCK.matcher(Files.readString(Path.of("README.md")));
        while (m.find()) blocks.add(m.group(1));
        if (blocks.size() != 2) {
            System.out.println("README.md has " + blocks.size() + " pieces of Java, due is 2: how a text is typed, and calls");
            System.exit(1);
        }
        run("public final class ReadmeCalls {\n" + blocks.get(0) + "public static void run() {\n" + calls(blocks.get(1)) + "}\n}\n");
        System.out.println(told + " answers of README.md, " + wrong + " wrong");
        if (wrong != 0 || told == 0) System.exit(1);
    }

    private static String calls(String block) {
        StringBuilder lines = new StringBuilder();
        for (String line : block.split("\n")) {
            Matcher m = TOLD.matcher(line);
            String call = m.matches() ? "ReadmeTest.due(\"" + m.group(1) + "\", " + m.group(1) + ", " + m.group(2) + ");" : line;
            lines.append(call).append('\n');
        }
        return lines.toString();
    }

    private static void run(String source) throws Exception {
        Path out = Files.createTempDirectory("readme");
        Path file = out.resolve("ReadmeCalls.java");
        Files.writeString(file, source);
        try (URLClassLoader loader = new URLClassLoader(new URL[] {out.toUri().toURL()})) {
            int failed = ToolProvider.findFirst("javac").orElseThrow().run(System.out, System.out,
                "-cp", System.getProperty("java.class.path"), "-d", out.toString(), file.toString());
            if (failed != 0) System.exit(1);
            loader.loadClass("ReadmeCalls").getMethod("run").invoke(null);
        } finally {
            Files.deleteIfExists(out.resolve("ReadmeCalls.class"));
            Files.deleteIfExists(file);
            Files.deleteIfExists(out);
        }
    }
}
