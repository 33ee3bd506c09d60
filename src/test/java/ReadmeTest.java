import java.io.ByteArrayOutputStream;
import java.io.IOException;
import java.io.PrintStream;
import java.lang.reflect.Method;
import java.lang.reflect.Modifier;
import java.net.URL;
import java.net.URLClassLoader;
import java.nio.charset.StandardCharsets;
import java.nio.file.Files;
import java.nio.file.Path;
import java.util.stream.Stream;
import javax.tools.JavaCompiler;
import javax.tools.ToolProvider;

/** README.md: its example compiles and prints what stands there, and it names every call. */
public final class ReadmeTest {
    private static final Check CHECK = new Check("ReadmeTest");

    public static void main(String[] args) throws IOException, ReflectiveOperationException {
        String readme = Files.readString(Path.of("README.md"));
        Path classes = Files.createTempDirectory("readme");
        try {
            CHECK.same("the example", printed(compiled(block(readme, "java"), classes)),
                    block(readme, "text"));
        } finally {
            remove(classes);
        }
        checkCalls(readme);
        CHECK.end();
    }

    /** The first block of a kind, without the lines that fence it in. */
    private static String block(String readme, String kind) {
        String fence = "```" + kind + "\n";
        int from = readme.indexOf(fence) + fence.length();
        return readme.substring(from, readme.indexOf("```", from));
    }

    private static Path compiled(String program, Path classes) throws IOException {
        Path file = classes.resolve("Example.java");
        Files.writeString(file, program);
        JavaCompiler compiler = ToolProvider.getSystemJavaCompiler();
        CHECK.due("compiling the example", 0, () -> compiler.run(null, null, null,
                "-cp", System.getProperty("java.class.path"), "-d", classes.toString(),
                file.toString()));
        return classes;
    }

    private static String printed(Path classes) throws IOException, ReflectiveOperationException {
        ByteArrayOutputStream text = new ByteArrayOutputStream();
        PrintStream out = System.out;
        try (URLClassLoader loader = new URLClassLoader(new URL[] {classes.toUri().toURL()})) {
            Method main = loader.loadClass("Example").getMethod("main", String[].class);
            System.setOut(new PrintStream(text, true, StandardCharsets.UTF_8));
            main.invoke(null, (Object) new String[0]);
        } finally {
            System.setOut(out);
        }
        return text.toString(StandardCharsets.UTF_8);
    }

    private static void remove(Path directory) throws IOException {
        try (Stream<Path> files = Files.list(directory)) {
            for (Path file : files.toList()) {
                Files.delete(file);
            }
        }
        Files.delete(directory);
    }

    private static void checkCalls(String readme) {
        for (Method method : AffixWorks.class.getDeclaredMethods()) {
            if (Modifier.isPublic(method.getModifiers())) {
                CHECK.is("README.md names " + method.getName(), true,
                        readme.contains("| `" + method.getName() + "("));
            }
        }
    }
}
