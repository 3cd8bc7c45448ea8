import java.io.ByteArrayOutputStream;
import java.io.IOException;
import java.io.PrintStream;
import java.lang.reflect.Method;
import java.lang.reflect.Modifier;
import java.net.URL;
import java.net.URLClassLoader;
import java.nio.charset.StandardCharsets;
import java.nio.file.Files;
import java.nio.file.Path;
import java.util.stream.Stream;
import javax.tools.ToolProvider;

/** README.md tells no more and no less than what stands: its example runs, and it names every call and every test. */
public final class ReadmeTest {
    private static int wrong = 0;

    public static void main(String[] args) throws IOException, ReflectiveOperationException {
        String readme = Files.readString(Path.of("README.md"));
        example(readme);
        for (Method method : BondCalendars.class.getDeclaredMethods()) {
            if (Modifier.isPublic(method.getModifiers()) && !readme.contains("`" + method.getName() + "`")) {
                bad("README.md doesn't name the call " + method.getName());
            }
        }
        try (Stream<Path> tests = Files.list(Path.of("src/test/java"))) {
            for (Path test : (Iterable<Path>) tests::iterator) {
                String name = test.getFileName().toString().replace(".java", "");
                if (!readme.contains("`" + name)) {
                    bad("README.md doesn't name the test " + name);
                }
            }
        }
        System.out.println(wrong == 0 ? "README.md is as due" : wrong + " things are not as due");
        if (wrong != 0) {
            System.exit(1);
        }
    }

    private static void bad(String what) {
        wrong++;
        System.out.println(what);
    }

    private static void example(String readme) throws IOException, ReflectiveOperationException {
        int from = readme.indexOf("```java\n");
        String program = block(readme, "```java\n", from);
        String due = block(readme, "```text\n", from);
        Path room = Files.createTempDirectory("readme");
        Path source = Files.writeString(room.resolve("Example.java"), program);
        int refused = ToolProvider.getSystemJavaCompiler().run(null, null, null,
                "-d", room.toString(), "-cp", System.getProperty("java.class.path"), source.toString());
        if (refused != 0) {
            bad("README.md's example doesn't compile");
        } else {
            String got = printedBy(room);
            if (!got.equals(due)) {
                bad("README.md's example prints:\n" + got + "due is:\n" + due);
            }
        }
        try (Stream<Path> left = Files.list(room)) {
            for (Path file : (Iterable<Path>) left::iterator) {
                Files.delete(file);
            }
        }
        Files.delete(room);
    }

    private static String block(String readme, String mark, int from) {
        int start = from < 0 ? -1 : readme.indexOf(mark, from);
        int end = start < 0 ? -1 : readme.indexOf("```\n", start + mark.length());
        if (end < 0) {
            bad("README.md has no such block: " + mark.trim());
            return "";
        }
        return readme.substring(start + mark.length(), end);
    }

    private static String printedBy(Path room) throws IOException, ReflectiveOperationException {
        PrintStream former = System.out;
        ByteArrayOutputStream caught = new ByteArrayOutputStream();
        try (URLClassLoader loader = new URLClassLoader(new URL[] {room.toUri().toURL()})) {
            System.setOut(new PrintStream(caught, true, StandardCharsets.UTF_8));
            loader.loadClass("Example").getMethod("main", String[].class).invoke(null, (Object) new String[0]);
        } finally {
            System.setOut(former);
        }
        return caught.toString(StandardCharsets.UTF_8).replace(System.lineSeparator(), "\n");
    }
}
