import java.io.File;
import java.io.IOException;
import java.lang.reflect.Method;
import java.net.URL;
import java.net.URLClassLoader;
import java.nio.file.Files;
import java.nio.file.Path;
import java.util.List;
import java.util.function.Supplier;
import java.util.regex.Matcher;
import java.util.regex.Pattern;
import javax.tools.ToolProvider;

/**
 * The Java of README.md is compiled and run: each call answers what its comment says up to the
 * colon, or throws it.
 */
public final class ReadmeTest {
    private static final Pattern SHOWN = Pattern.compile("(vault\\.\\w+\\(.*\\));\\s+// ([^:]+)(?:: .*)?");
    private static final String NAME = "ReadmeCalls";
    private static final int MOST_CALLS = 512;

    private static int shown;

    public static void main(String[] args) throws IOException, ReflectiveOperationException {
        Path directory = Files.createTempDirectory("readme");
        Path source = directory.resolve(NAME + ".java");
        try {
            Files.writeString(source, program(Files.readAllLines(Path.of("README.md"))));
            runProgram(directory, source);
        } finally {
            Files.deleteIfExists(directory.resolve(NAME + ".class"));
            Files.delete(source);
            Files.delete(directory);
        }
        Expect.promise(1, "README.md shows answers, of no more calls than are promised");
        Expect.due(true, shown > 0 && shown <= MOST_CALLS);
        Expect.finish();
    }

    private static String program(List<String> lines) {
        StringBuilder text = new StringBuilder("public final class " + NAME + " { public static void main() {\n");
        boolean isJava = false;
        for (int i = 0; i < lines.size(); i++) {
            String line = lines.get(i);
            if (line.startsWith("```")) {
                isJava = line.equals("```java");
            } else if (isJava) {
                text.append(statement(line, i + 1)).append('\n');
            }
        }
        return text.append("} }\n").toString();
    }

    /** A line that shows an answer becomes a check of it; all else stays as it is. */
    private static String statement(String line, int number) {
        Matcher matcher = SHOWN.matcher(line);
        if (matcher.matches()) {
            return "ReadmeTest.shows(" + number + ", \"" + matcher.group(2) + "\", () -> " + matcher.group(1) + ");";
        }
        Expect.promise(1, "README.md, line " + number + " shows what its call answers");
        Expect.due(false, line.startsWith("vault."));
        return line;
    }

    private static void runProgram(Path directory, Path source) throws IOException, ReflectiveOperationException {
        String path = System.getProperty("java.class.path") + File.pathSeparator + directory;
        int exit = ToolProvider.getSystemJavaCompiler().run(null, null, null,
                "-cp", path, "-d", directory.toString(), source.toString());
        Expect.promise(1, "the Java of README.md compiles");
        Expect.due(0, exit);
        if (exit != 0) {
            return;
        }
        try (URLClassLoader loader = new URLClassLoader(new URL[] {directory.toUri().toURL()})) {
            Method main = loader.loadClass(NAME).getMethod("main");
            main.invoke(null);
        }
    }

    /** Called by the program that README.md becomes. */
    public static void shows(int line, String due, Supplier<Object> call) {
        shown++;
        Expect.promise(1, "README.md, line " + line);
        Expect.due(due, outcome(call));
    }

    private static String outcome(Supplier<Object> call) {
        try {
            Object answer = call.get();
            return answer instanceof Character ? "'" + answer + "'" : String.valueOf(answer);
        } catch (RuntimeException e) {
            return e.getClass().getSimpleName();
        }
    }
}
