import java.io.ByteArrayOutputStream;
import java.io.IOException;
import java.io.PrintStream;
import java.lang.reflect.Method;
import java.lang.reflect.Modifier;
import java.net.URL;
import java.net.URLClassLoader;
import java.nio.charset.StandardCharsets;
import java.nio.file.Files;
import java.nio.file.Path;
import javax.tools.ToolProvider;

/** The example of README.md is compiled and run, and prints what is said there; every call is spoken of. */
public final class ReadmeTest {
    private static final Path README = Path.of("README.md");

    private ReadmeTest() {
    }

    public static void main(String[] args) throws IOException, ReflectiveOperationException {
        String readme = Files.readString(README);
        Check check = new Check();
        String due = block(readme, "text");
        String printed = run(block(readme, "java"));
        if (!printed.equals(due)) {
            System.out.println(printed);
        }
        check.due("the example prints what is said", printed.equals(due), true);
        for (Method method : SecondFitting.class.getDeclaredMethods()) {
            if (Modifier.isPublic(method.getModifiers())) {
                check.due(method.getName() + " is spoken of", readme.contains("`" + method.getName() + "`"), true);
            }
        }
        check.due("how to run the tests is said", readme.contains("bash .ci/run"), true);
        check.end();
    }

    /** The first block of a sort. */
    private static String block(String readme, String sort) {
        String begin = "```" + sort + "\n";
        int begun = readme.indexOf(begin);
        int end = readme.indexOf("```", begun + begin.length());
        return begun < 0 || end < 0 ? "" : readme.substring(begun + begin.length(), end);
    }

    private static String run(String program) throws IOException, ReflectiveOperationException {
        Path made = Files.createTempDirectory("readme");
        Path file = made.resolve("Example.java");
        Files.writeString(file, program);
        String path = System.getProperty("java.class.path");
        int failed = ToolProvider.getSystemJavaCompiler().run(null, null, null, "-cp", path, "-d", made.toString(),
            file.toString());
        if (failed != 0) {
            return "it can't be compiled";
        }
        PrintStream old = System.out;
        ByteArrayOutputStream bytes = new ByteArrayOutputStream();
        try (URLClassLoader loader = new URLClassLoader(new URL[] {made.toUri().toURL()})) {
            System.setOut(new PrintStream(bytes, true, StandardCharsets.UTF_8));
            loader.loadClass("Example").getMethod("main", String[].class).invoke(null, (Object) new String[0]);
        } finally {
            System.setOut(old);
            for (String name : new String[] {"Example.java", "Example.class"}) {
                Files.deleteIfExists(made.resolve(name));
            }
            Files.deleteIfExists(made);
        }
        return bytes.toString(StandardCharsets.UTF_8).replace("\r\n", "\n");
    }
}
