import java.io.IOException;
import java.lang.reflect.Method;
import java.lang.reflect.Modifier;
import java.net.URL;
import java.net.URLClassLoader;
import java.nio.charset.StandardCharsets;
import java.nio.file.Files;
import java.nio.file.Path;
import java.util.List;
import java.util.regex.Matcher;
import java.util.regex.Pattern;
import java.util.stream.Collectors;
import javax.tools.ToolProvider;

/** What README.md shows compiles, each answer that stands behind a call there is the class's, and no call is missing. */
public final class ReadmeTest {
    private static final Path README = Path.of("README.md");
    private static final Pattern BLOCK = Pattern.compile("(?s)```java\n(.*?)```");
    private static final Pattern CALL = Pattern.compile("(int \\w+ = )?([xy]\\.(\\w+)\\(.*\\)); *// (-?\\d+)\\b.*");

    private static Due due;

    public static void main(String[] args) throws IOException, ReflectiveOperationException {
        due = new Due("what README.md shows");
        String shown = shown();
        for (Method method : EachEye.class.getDeclaredMethods()) {
            due.yes("it shows " + method.getName() + "()", !Modifier.isPublic(method.getModifiers())
                    || shown.contains("." + method.getName() + "("));
        }
        Path directory = Files.createTempDirectory("readme");
        try {
            run(directory, shown);
        } finally {
            for (String name : List.of("Shown.java", "Shown.class")) {
                Files.deleteIfExists(directory.resolve(name));
            }
            Files.delete(directory);
        }
        due.end();
    }

    /** The code of the file's blocks. */
    private static String shown() throws IOException {
        Matcher blocks = BLOCK.matcher(Files.readString(README, StandardCharsets.UTF_8));
        StringBuilder shown = new StringBuilder();
        while (blocks.find()) {
            shown.append(blocks.group(1));
        }
        return shown.toString();
    }

    private static void run(Path directory, String shown) throws IOException, ReflectiveOperationException {
        Path source = directory.resolve("Shown.java");
        Files.writeString(source, "public class Shown {\npublic static void main(String[] args) {\n"
                + shown.lines().map(ReadmeTest::asked).collect(Collectors.joining("\n")) + "\n}\n}\n");
        int failed = ToolProvider.getSystemJavaCompiler().run(null, null, null, "-cp",
                System.getProperty("java.class.path"), "-d", directory.toString(), source.toString());
        due.same("what the compiler says of it", failed, 0);
        if (failed == 0) {
            try (URLClassLoader loader = new URLClassLoader(new URL[] {directory.toUri().toURL()})) {
                loader.loadClass("Shown").getMethod("main", String[].class).invoke(null, (Object) new String[0]);
            }
        }
    }

    /** A line as it is, but that a call is compared with the answer behind it; only loops may show none. */
    private static String asked(String line) {
        Matcher call = CALL.matcher(line);
        if (!call.matches()) {
            due.yes("an answer stands behind " + line, !line.matches("(int \\w+ = )?[xy]\\..*"));
            return line;
        }
        String kept = call.group(1) == null ? "" : call.group(1) + "(int) ";
        return kept + "ReadmeTest.due(\"" + call.group(2).replace("\"", "\\\"") + "\", " + call.group(2) + ", "
                + call.group(4) + "L);";
    }

    public static long due(String call, long got, long want) {
        due.same(call, got, want);
        return got;
    }
}
