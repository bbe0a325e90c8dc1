import java.io.ByteArrayOutputStream;
import java.io.IOException;
import java.io.PrintStream;
import java.lang.reflect.Method;
import java.lang.reflect.Modifier;
import java.net.URL;
import java.net.URLClassLoader;
import java.nio.file.Files;
import java.nio.file.Path;
import java.util.List;
import java.util.stream.Collectors;
import javax.tools.ToolProvider;

/** README.md: its program compiles and prints what stands behind its lines, and no call of the class is left out. */
public final class ReadmeTest {
    private static final String PRINTS = "System.out.println(";

    private ReadmeTest() {
    }

    public static void main(String[] args) throws IOException, ReflectiveOperationException {
        String readme = Files.readString(Path.of("README.md"));
        String start = "```java\n";
        int from = readme.indexOf(start) + start.length();
        String program = readme.substring(from, readme.indexOf("```", from));
        Path folder = Files.createTempDirectory("readme");
        // What is told last is deleted first.
        folder.toFile().deleteOnExit();
        folder.resolve("Example.java").toFile().deleteOnExit();
        folder.resolve("Example.class").toFile().deleteOnExit();
        Check.same("what the program prints", printed(program, folder), due(program));
        for (Method m : LineageTables.class.getDeclaredMethods()) {
            if (Modifier.isPublic(m.getModifiers())) {
                Check.same(m.getName() + " is used", program.contains("x." + m.getName() + "("), true);
                Check.same(m.getName() + " is told", readme.contains("| `" + m.getName() + "("), true);
            }
        }
        Check.end();
    }

    /** Of each line that prints, the first word behind it, which a colon may end. */
    private static List<String> due(String program) {
        return program.lines().filter(line -> line.contains(PRINTS))
                .map(line -> line.substring(line.indexOf("// ") + 3).split(":")[0]).collect(Collectors.toList());
    }

    private static List<String> printed(String program, Path folder)
            throws IOException, ReflectiveOperationException {
        Path file = Files.writeString(folder.resolve("Example.java"), program);
        int failed = ToolProvider.getSystemJavaCompiler().run(null, null, null, "-cp",
                System.getProperty("java.class.path"), "-d", folder.toString(), file.toString());
        Check.same("the program compiles", failed, 0);
        PrintStream screen = System.out;
        ByteArrayOutputStream caught = new ByteArrayOutputStream();
        try (URLClassLoader loader = new URLClassLoader(new URL[] {folder.toUri().toURL()})) {
            System.setOut(new PrintStream(caught, true));
            loader.loadClass("Example").getMethod("main", String[].class).invoke(null, (Object) new String[0]);
        } finally {
            System.setOut(screen);
        }
        return caught.toString().lines().collect(Collectors.toList());
    }
}
