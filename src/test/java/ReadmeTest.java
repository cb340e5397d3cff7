import java.io.IOException;
import java.net.URL;
import java.net.URLClassLoader;
import java.nio.charset.StandardCharsets;
import java.nio.file.Files;
import java.nio.file.Path;
import java.util.ArrayList;
import java.util.List;
import java.util.regex.Matcher;
import java.util.regex.Pattern;
import java.util.stream.Stream;
import javax.tools.JavaCompiler;
import javax.tools.ToolProvider;

/** The example of README.md, compiled and run as it stands there: the answers it tells have to be those it gets. */
public final class ReadmeTest {
    private static final Path README = Path.of("README.md");
    private static final String NAME = "ReadmeExample";

    /** "int shells = ship.add(1, NONE, 100);  // -> 0, their number": only what stands behind an arrow is an answer. */
    private static final Pattern STATEMENT = Pattern.compile("(?:int (?<name>\\w+) = )?(?<call>[^;]+);"
            + "(?: +// -> (?<throws>throws )?(?<due>[^, ]+)(?:, .*)?)?");

    private ReadmeTest() {
    }

    /** The lines of all blocks of Java, which together are one run of calls. */
    private static List<String> example() throws IOException {
        List<String> lines = new ArrayList<>();
        boolean isJava = false;
        for (String line : Files.readAllLines(README, StandardCharsets.UTF_8)) {
            if (line.startsWith("```")) {
                isJava = line.equals("```java");
            } else if (isJava && !line.isBlank() && !line.startsWith("//")) {
                lines.add(line);
            }
        }
        return lines;
    }

    private static String program(List<String> example) {
        StringBuilder text = new StringBuilder();
        text.append("public final class " + NAME + " {\n");
        text.append("    public static void run(Due due) {\n");
        for (String line : example) {
            text.append("        ").append(compared(line)).append('\n');
        }
        return text.append("    }\n}\n").toString();
    }

    private static String compared(String line) {
        Matcher statement = STATEMENT.matcher(line);
        if (!statement.matches()) {
            throw new IllegalStateException("no statement with its answer behind an arrow: " + line);
        }
        String name = statement.group("name");
        String call = statement.group("call");
        String due = statement.group("due");
        if (due == null) {
            return line;
        }
        if (statement.group("throws") != null) {
            return "due.fails(\"" + call + "\", \"" + due + "\", () -> " + call + ");";
        }
        String answer = due.equals("NONE") ? "DangerousGoods.NONE" : due;
        String compared = "due.same(\"" + call + "\", " + (name == null ? call : name) + ", " + answer + ");";
        return name == null ? compared : "int " + name + " = " + call + "; " + compared;
    }

    private static void compile(Path folder, String program) throws IOException {
        Path source = folder.resolve(NAME + ".java");
        Files.writeString(source, program);
        JavaCompiler javac = ToolProvider.getSystemJavaCompiler();
        int code = javac == null ? -1 : javac.run(null, null, null, "-cp", System.getProperty("java.class.path"),
                "-d", folder.toString(), source.toString());
        if (code != 0) {
            throw new IllegalStateException("javac ended with " + code + " for\n" + program);
        }
    }

    private static void run(Path folder, Due due) throws IOException, ReflectiveOperationException {
        try (URLClassLoader loader = new URLClassLoader(new URL[] {folder.toUri().toURL()})) {
            loader.loadClass(NAME).getMethod("run", Due.class).invoke(null, due);
        }
    }

    private static void delete(Path folder) throws IOException {
        try (Stream<Path> files = Files.list(folder)) {
            for (Path file : files.toList()) {
                Files.delete(file);
            }
        }
        Files.delete(folder);
    }

    public static void main(String[] args) throws IOException, ReflectiveOperationException {
        Due due = new Due("ReadmeTest");
        Path folder = Files.createTempDirectory("readme");
        try {
            compile(folder, program(example()));
            run(folder, due);
        } finally {
            delete(folder);
        }
        due.end();
    }
}
