import java.io.IOException;
import java.lang.reflect.Method;
import java.lang.reflect.Modifier;
import java.net.URL;
import java.net.URLClassLoader;
import java.nio.file.Files;
import java.nio.file.Path;
import java.util.Comparator;
import java.util.List;
import java.util.regex.Matcher;
import java.util.regex.Pattern;
import java.util.stream.Stream;
import javax.tools.JavaCompiler;
import javax.tools.ToolProvider;

/**
 * Every call that README.md shows answers what is written beside it. Its pieces of Java are compiled as they stand, one
 * behind the other, so that they are known to be Java, too.
 */
public final class ReadmeTest {
    private static final Due due = new Due();
    private static final Pattern PIECE = Pattern.compile("```java\n(.*?)```", Pattern.DOTALL);
    private static final Pattern MADE = Pattern.compile("VeneerRows x = new VeneerRows\\(-?\\d+\\); +// .*");
    private static final Pattern CALL =
        Pattern.compile("(int \\w+ = )?(x\\.(\\w+)\\(.*\\)); +// (-?\\d+|NONE|UNKNOWN|OUTSIDE|ROOM)(: .*)?");
    private static final int CALLS_PROMISED = 512;
    private static int shown;

    public static void main(String[] args) throws Exception {
        String readme = Files.readString(Path.of("README.md"));
        compareCalls(programOf(readme));
        everyMethodIsShown(readme);
        everyTestIsNamed(readme);
        due.end();
    }

    /** What the compiled calls hand their answers to, and take them back from. */
    public static int answers(String call, int got, int want) {
        due.is("README.md: " + call, got, want);
        shown--;
        return got;
    }

    private static String programOf(String readme) {
        StringBuilder program = new StringBuilder("public final class Shown { public static void story() {\n");
        Matcher piece = PIECE.matcher(readme);
        while (piece.find()) {
            for (String line : piece.group(1).split("\n")) {
                program.append(compared(line)).append('\n');
            }
        }
        return program.append("} }\n").toString();
    }

    private static String compared(String line) {
        if (line.isBlank() || MADE.matcher(line).matches()) {
            return line;
        }
        Matcher call = CALL.matcher(line);
        if (!call.matches()) {
            due.is("README.md has an answer beside " + line, 0, 1);
            return "";
        }
        shown++;
        String want = call.group(4);
        return (call.group(1) == null ? "" : call.group(1)) + "ReadmeTest.answers(\""
            + call.group(2).replace("\\", "\\\\").replace("\"", "\\\"") + "\", " + call.group(2) + ", "
            + (Character.isUpperCase(want.charAt(0)) ? "VeneerRows." + want : want) + ");";
    }

    private static void compareCalls(String program) throws Exception {
        due.is("README.md shows calls", shown > 0 ? 1 : 0, 1);
        due.is("README.md shows more calls than are promised", shown > CALLS_PROMISED ? 1 : 0, 0);
        Path room = Files.createTempDirectory("readme");
        try {
            Path file = room.resolve("Shown.java");
            Files.writeString(file, program);
            JavaCompiler compiler = ToolProvider.getSystemJavaCompiler();
            int failed = compiler == null ? 1 : compiler.run(null, null, null, "-d", room.toString(),
                "-cp", System.getProperty("java.class.path"), file.toString());
            due.is("README.md: its Java does not compile", failed, 0);
            if (failed == 0) {
                try (URLClassLoader loader = new URLClassLoader(new URL[] {room.toUri().toURL()})) {
                    loader.loadClass("Shown").getMethod("story").invoke(null);
                }
                due.is("README.md: calls that were not compared", shown, 0);
            }
        } finally {
            remove(room);
        }
    }

    private static void remove(Path room) throws IOException {
        try (Stream<Path> all = Files.walk(room)) {
            for (Path path : all.sorted(Comparator.reverseOrder()).toList()) {
                Files.delete(path);
            }
        }
    }

    private static void everyMethodIsShown(String readme) {
        for (Method m : VeneerRows.class.getDeclaredMethods()) {
            if (Modifier.isPublic(m.getModifiers())) {
                due.is("README.md shows " + m.getName(), readme.contains(" x." + m.getName() + "(")
                    || readme.contains("\nx." + m.getName() + "(") ? 1 : 0, 1);
            }
        }
    }

    private static void everyTestIsNamed(String readme) throws IOException {
        try (Stream<Path> files = Files.list(Path.of("src/test/java"))) {
            List<String> names = files.map(f -> f.getFileName().toString().replace(".java", "")).toList();
            for (String name : names) {
                due.is("README.md names " + name, readme.contains("`" + name + "`") ? 1 : 0, 1);
            }
        }
    }
}
