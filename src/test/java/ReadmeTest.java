import java.io.ByteArrayOutputStream;
import java.io.IOException;
import java.io.PrintStream;
import java.net.URL;
import java.net.URLClassLoader;
import java.nio.file.Files;
import java.nio.file.Path;
import java.util.Comparator;
import java.util.List;
import java.util.regex.Matcher;
import java.util.regex.Pattern;
import java.util.stream.Stream;
import javax.tools.ToolProvider;

/** Compiles the program that README.md shows, beside the class, and compares what it prints with what stands there. */
public final class ReadmeTest {
    private static final Pattern PROGRAM = Pattern.compile("```java\n(.*?)```", Pattern.DOTALL);
    private static final Pattern PRINTED = Pattern.compile("```text\n(.*?)```", Pattern.DOTALL);

    public static void main(String[] args) throws IOException, ReflectiveOperationException {
        String readme = Files.readString(Path.of("README.md"));
        Path folder = Files.createTempDirectory("readme");
        try {
            Path program = folder.resolve("Street.java");
            Files.writeString(program, firstOf(PROGRAM, readme));
            Due.is("the program of README.md compiles", compile(folder, program), true);
            Due.is("it prints", printedBy(folder, "Street"), firstOf(PRINTED, readme));
        } finally {
            delete(folder);
        }
        Due.end("ReadmeTest");
    }

    private static String firstOf(Pattern pattern, String text) {
        Matcher matcher = pattern.matcher(text);
        return matcher.find() ? matcher.group(1) : "";
    }

    private static boolean compile(Path folder, Path program) {
        return ToolProvider.getSystemJavaCompiler().run(null, null, null, "-d", folder.toString(),
                Path.of("src", "main", "java", "TwofrontArcade.java").toString(), program.toString()) == 0;
    }

    private static String printedBy(Path folder, String name) throws IOException, ReflectiveOperationException {
        PrintStream kept = System.out;
        ByteArrayOutputStream bytes = new ByteArrayOutputStream();
        // without a parent, so that it meets the class that was compiled with it
        try (URLClassLoader loader = new URLClassLoader(new URL[] {folder.toUri().toURL()}, null)) {
            System.setOut(new PrintStream(bytes, true));
            loader.loadClass(name).getMethod("main", String[].class).invoke(null, (Object) new String[0]);
        } finally {
            System.setOut(kept);
        }
        return bytes.toString().replace(System.lineSeparator(), "\n");
    }

    private static void delete(Path folder) throws IOException {
        List<Path> paths;
        try (Stream<Path> walk = Files.walk(folder)) {
            paths = walk.sorted(Comparator.reverseOrder()).toList();
        }
        for (Path path : paths) {
            Files.delete(path);
        }
    }
}
