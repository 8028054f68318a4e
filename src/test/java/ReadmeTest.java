import java.io.IOException;
import java.lang.reflect.InvocationTargetException;
import java.lang.reflect.Method;
import java.lang.reflect.Modifier;
import java.net.URL;
import java.net.URLClassLoader;
import java.nio.charset.StandardCharsets;
import java.nio.file.Files;
import java.nio.file.Path;
import java.util.ArrayList;
import java.util.List;
import java.util.regex.Matcher;
import java.util.regex.Pattern;
import javax.tools.JavaCompiler;
import javax.tools.ToolProvider;

/** The example of README.md, compiled and run: each call answers as the page tells behind it. */
public final class ReadmeTest {
    private static final Check CHECK = new Check();
    /** A call whose answer is told: x.call(..);  // 3: why */
    private static final Pattern TOLD = Pattern.compile("(x\\.(\\w+)\\(.*\\)); +// (-?\\d+)(?:: .*)?");
    private static final String CLASS = "ReadmeExample";

    private static final List<String> calls = new ArrayList<>();
    private static final List<Long> due = new ArrayList<>();

    public static void main(String[] args) throws IOException, ReflectiveOperationException {
        String source = source(Files.readAllLines(Path.of("README.md"), StandardCharsets.UTF_8));
        CHECK.says("README.md tells each of the calls with its answer");
        everyCallIsTold(source);
        long[] got = answers(source);
        CHECK.due("how many answers", got.length, calls.size());
        for (int k = 0; k < got.length && k < calls.size(); k++) {
            CHECK.due(calls.get(k), got[k], due.get(k));
        }
        CHECK.end();
    }

    /** The lines of the page's java blocks, one behind another, as a method that tells the answers. */
    private static String source(List<String> page) {
        StringBuilder body = new StringBuilder();
        boolean inBlock = false;
        for (String line : page) {
            if (line.startsWith("```")) {
                inBlock = line.equals("```java");
            } else if (inBlock) {
                body.append(asked(line)).append('\n');
            }
        }
        return "public final class " + CLASS + " {\n"
            + "    public static long[] answers() {\n"
            + "long[] got = new long[" + calls.size() + "];\n" + body + "return got;\n    }\n}\n";
    }

    private static String asked(String line) {
        Matcher told = TOLD.matcher(line);
        if (!told.matches()) {
            return line;
        }
        calls.add(told.group(1));
        due.add(Long.parseLong(told.group(3)));
        return "got[" + (calls.size() - 1) + "] = " + told.group(1) + ";";
    }

    private static void everyCallIsTold(String source) {
        for (Method method : ThreeRefusals.class.getDeclaredMethods()) {
            if (Modifier.isPublic(method.getModifiers())) {
                boolean told = source.contains("x." + method.getName() + "(");
                CHECK.due("is " + method.getName() + " on the page", told ? 1 : 0, 1);
            }
        }
    }

    private static long[] answers(String source) throws IOException, ReflectiveOperationException {
        Path folder = Files.createTempDirectory("readme");
        Path file = folder.resolve(CLASS + ".java");
        Files.writeString(file, source);
        JavaCompiler compiler = ToolProvider.getSystemJavaCompiler();
        int failed = compiler.run(null, null, null, "-cp", System.getProperty("java.class.path"),
            "-d", folder.toString(), file.toString());
        CHECK.due("compiling the example", failed, 0);
        try (URLClassLoader loader = new URLClassLoader(new URL[] {folder.toUri().toURL()})) {
            return failed == 0
                ? (long[]) loader.loadClass(CLASS).getMethod("answers").invoke(null)
                : new long[0];
        } catch (InvocationTargetException thrown) {
            throw new IllegalStateException("the example threw", thrown.getCause());
        } finally {
            clear(folder, file);
        }
    }

    private static void clear(Path folder, Path source) throws IOException {
        Files.deleteIfExists(source);
        Files.deleteIfExists(folder.resolve(CLASS + ".class"));
        Files.deleteIfExists(folder);
    }
}
