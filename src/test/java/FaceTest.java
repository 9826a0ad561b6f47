import java.io.IOException;
import java.lang.reflect.Constructor;
import java.lang.reflect.Field;
import java.lang.reflect.Method;
import java.lang.reflect.Modifier;
import java.nio.file.Files;
import java.nio.file.Path;
import java.util.ArrayList;
import java.util.List;
import java.util.TreeSet;
import java.util.regex.Matcher;
import java.util.regex.Pattern;

/** The class has the document's face, and nothing beside it. It is run in the project's own folder. */
public final class FaceTest {

    private static final Due due = new Due("FaceTest");
    private static final int PROMISES = 38;
    private static final Pattern CALL = Pattern.compile("    public (\\w+ \\w+)\\((.*)\\)(?: throws (.*))?;");
    private static final Pattern PROMISE = Pattern.compile("## Promise (\\d+): ([\\w ]+)\\s+`([^`]*)`:");
    private static final Pattern AHEAD = Pattern.compile("Ahead of the calls (.*) the interface says: (---- [\\w ]+)\\.");

    public static void main(String[] args) throws IOException {
        String document = Files.readString(Path.of("../shared/DOC.md"));
        TreeSet<String> want = told(document);
        due.is("the document's calls", want.size(), PROMISES - 1);
        TreeSet<String> got = new TreeSet<>();
        TreeSet<String> privates = new TreeSet<>();
        for (Method method : WeatherTea.class.getDeclaredMethods()) {
            if (Modifier.isPrivate(method.getModifiers())) {
                privates.add(method.getName());
            } else {
                got.add(described(method));
            }
        }
        if (!got.equals(want)) {
            System.out.println("the face is " + got + ", the document's is " + want);
        }
        due.is("the face is the document's", got.equals(want), true);
        due.is("public and final", WeatherTea.class.getModifiers(), Modifier.PUBLIC | Modifier.FINAL);
        due.is("the document says so", document.contains("public final class WeatherTea {"), true);
        theClassesInside(privates);
        for (Method method : WeatherTea.class.getDeclaredMethods()) {
            if (Modifier.isPublic(method.getModifiers())) {
                due.is("a method inside is called " + method.getName(), privates.contains(method.getName()), false);
            }
        }
        theConstructor(document);
        thePromisesAreOfTheFace(document);
        theSourceIsParted(document);
        due.end();
    }

    /** Adds the names of the methods that they have. */
    private static void theClassesInside(TreeSet<String> privates) {
        for (Class<?> inside : WeatherTea.class.getDeclaredClasses()) {
            due.is(inside + " is static", Modifier.isStatic(inside.getModifiers()), true);
            due.is(inside + " is not public", Modifier.isPublic(inside.getModifiers()), false);
            for (Method method : inside.getDeclaredMethods()) {
                privates.add(method.getName());
            }
        }
    }

    private static void theConstructor(String document) {
        for (Field field : WeatherTea.class.getDeclaredFields()) {
            due.is(field + " is private", Modifier.isPrivate(field.getModifiers()), true);
        }
        Constructor<?>[] constructors = WeatherTea.class.getDeclaredConstructors();
        due.is("constructors", constructors.length, 1);
        due.is("the constructor is public", Modifier.isPublic(constructors[0].getModifiers()), true);
        due.is("its parameters", constructors[0].getParameterCount(), 0);
        due.is("what it throws", constructors[0].getExceptionTypes().length, 0);
        due.is("the document says so", document.contains("\n    public WeatherTea();\n"), true);
    }

    /** The calls that the document's face tells, each with its answer, parameters and exceptions, in their order. */
    private static TreeSet<String> told(String document) {
        TreeSet<String> calls = new TreeSet<>();
        Matcher call = CALL.matcher(document);
        while (call.find()) {
            String parameters = call.group(2).replaceAll("(\\w+) \\w+", "$1").replace(", ", ",");
            String thrown = call.group(3) == null ? "" : " " + call.group(3).replace(",", "");
            calls.add(call.group(1) + "(" + parameters + ")" + thrown);
        }
        return calls;
    }

    private static String described(Method method) {
        List<String> parameters = new ArrayList<>();
        for (Class<?> parameter : method.getParameterTypes()) {
            parameters.add(parameter.getSimpleName());
        }
        StringBuilder text = new StringBuilder();
        text.append(Modifier.isPublic(method.getModifiers()) ? "" : "hidden ");
        text.append(Modifier.isStatic(method.getModifiers()) ? "static " : "");
        text.append(method.getReturnType().getSimpleName()).append(' ').append(method.getName());
        text.append('(').append(String.join(",", parameters)).append(')');
        for (Class<?> thrown : method.getExceptionTypes()) {
            text.append(' ').append(thrown.getSimpleName());
        }
        return text.toString();
    }

    /** The promises tell the same calls as the face, in the same order. */
    private static void thePromisesAreOfTheFace(String document) {
        int at = document.indexOf("    public WeatherTea();");
        int number = 0;
        Matcher promise = PROMISE.matcher(document);
        while (promise.find()) {
            number++;
            due.is("the number of promise " + number, Integer.parseInt(promise.group(1)), number);
            int next = document.indexOf("    public " + promise.group(3) + ";", at);
            due.is("promise " + number + " is of the face: " + promise.group(3), next >= at, true);
            due.is("its name", number == 1 || promise.group(3).contains(" " + promise.group(2) + "("), true);
            at = Math.max(at, next);
        }
        due.is("promises", number, PROMISES);
    }

    /** The source has the document's headings, each ahead of its calls and behind the calls of the one before. */
    private static void theSourceIsParted(String document) throws IOException {
        String source = Files.readString(Path.of("src/main/java/WeatherTea.java"));
        int at = source.indexOf("    public WeatherTea() {");
        int calls = 0;
        Matcher part = AHEAD.matcher(document);
        while (part.find()) {
            int heading = source.indexOf("\n    // " + part.group(2) + "\n", at);
            due.is("the source says " + part.group(2), heading > at, true);
            at = heading;
            for (String call : part.group(1).replace("`", "").split(", ")) {
                int next = source.indexOf(" " + call + "(", at);
                due.is(call + " stands in its place", next > at, true);
                at = next;
                calls++;
            }
        }
        due.is("calls behind a heading", calls, PROMISES - 1);
    }
}
