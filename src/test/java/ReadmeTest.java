import java.io.ByteArrayOutputStream;
import java.io.IOException;
import java.io.PrintStream;
import java.lang.reflect.InvocationTargetException;
import java.lang.reflect.Method;
import java.lang.reflect.Modifier;
import java.net.URL;
import java.net.URLClassLoader;
import java.nio.charset.StandardCharsets;
import java.nio.file.Files;
import java.nio.file.Path;
import java.util.List;
import java.util.stream.Collectors;
import java.util.stream.Stream;
import javax.tools.ToolProvider;

/** README.md tells each call and each test, and its example does what it says. It is run in the project's own folder. */
public final class ReadmeTest {

    private static final Due due = new Due("ReadmeTest");

    public static void main(String[] args) throws IOException, ReflectiveOperationException {
        String readme = Files.readString(Path.of("README.md"));
        theCallsAreThere(readme);
        theTestsAreThere(readme);
        thePlanIsOne(readme);
        theExampleHolds(readme);
        due.end();
    }

    private static void theCallsAreThere(String readme) throws IOException {
        due.is("the constructor is told", readme.contains("`new WeatherTea()`"), true);
        List<String> document = Files.readAllLines(Path.of("../shared/DOC.md"));
        for (Method method : WeatherTea.class.getDeclaredMethods()) {
            if (Modifier.isPublic(method.getModifiers())) {
                List<String> faces = document.stream().filter(line -> line.startsWith("    public ") && line.contains(" " + method.getName() + "("))
                        .map(line -> line.substring(11, line.indexOf(')') + 1)).collect(Collectors.toList());
                due.is("the face of " + method.getName() + " in the document", faces.size(), 1);
                due.is("the README tells <" + faces.get(0) + ">", readme.contains("`" + faces.get(0) + "`"), true);
            }
        }
    }

    private static void theTestsAreThere(String readme) throws IOException {
        due.is("the README tells how to run the tests", readme.contains("\n.ci/run\n"), true);
        due.is("the script can be run", Files.isExecutable(Path.of(".ci/run")), true);
        try (Stream<Path> files = Files.list(Path.of("src/test/java"))) {
            for (Path file : files.sorted().collect(Collectors.toList())) {
                String name = file.getFileName().toString().replace(".java", "");
                due.is("the README tells " + name, !name.endsWith("Test") || readme.contains("`" + name + "`"), true);
            }
        }
    }

    /** What stands in the first fence of this kind behind a heading. */
    private static String fenced(String readme, String heading, String kind) {
        int start = readme.indexOf("```" + kind + "\n", readme.indexOf("\n" + heading + "\n")) + kind.length() + 4;
        return readme.substring(start, readme.indexOf("```", start));
    }

    private static void thePlanIsOne(String readme) {
        WeatherTea tea = new WeatherTea();
        due.is("teach() of the plan", Tea.teach(tea, fenced(readme, "### A plan", "text")), 0);
        due.is("its fronts and guests", tea.fronts() * 10 + tea.guests(), 11);
        tea.passHours(30);
        due.is("bora is steeped and ada is served", tea.isSteeped(0) && tea.wasServed(0), true);
    }

    private static void theExampleHolds(String readme) throws IOException, ReflectiveOperationException {
        Path folder = Files.createTempDirectory("readme");
        Path source = folder.resolve("Brew.java");
        Files.writeString(source, fenced(readme, "### An example", "java"));
        int refused = ToolProvider.getSystemJavaCompiler().run(null, null, null, "-cp", System.getProperty("java.class.path"),
                "-d", folder.toString(), source.toString());
        due.is("the example is compiled", refused, 0);
        if (refused == 0) {
            due.is("the example prints what stands behind it", printed(folder).equals(fenced(readme, "It prints:", "text")), true);
        }
        try (Stream<Path> files = Files.walk(folder)) {
            files.sorted((one, other) -> other.compareTo(one)).forEach(file -> file.toFile().delete());
        }
    }

    private static String printed(Path folder) throws IOException, ReflectiveOperationException {
        ByteArrayOutputStream bytes = new ByteArrayOutputStream();
        PrintStream console = System.out;
        try (URLClassLoader loader = new URLClassLoader(new URL[] {folder.toUri().toURL()}, ReadmeTest.class.getClassLoader())) {
            System.setOut(new PrintStream(bytes, true, StandardCharsets.UTF_8));
            loader.loadClass("Brew").getMethod("main", String[].class).invoke(null, (Object) new String[0]);
        } catch (InvocationTargetException e) {
            throw new AssertionError("the example threw", e.getCause());
        } finally {
            System.setOut(console);
        }
        return bytes.toString(StandardCharsets.UTF_8).replace(System.lineSeparator(), "\n");
    }
}
