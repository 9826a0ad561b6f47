import java.io.IOException;
import java.io.PrintWriter;
import java.io.StringWriter;
import java.nio.file.Files;
import java.nio.file.Path;
import java.util.ArrayList;
import java.util.List;
import java.util.Map;
import java.util.Set;
import java.util.TreeMap;
import java.util.TreeSet;
import java.util.regex.Matcher;
import java.util.regex.Pattern;
import java.util.spi.ToolProvider;
import java.util.stream.Collectors;
import java.util.stream.Stream;

/** What of ../shared/LANGUAGE.md can be seen in the compiled classes, which it reads as javap prints them. */
public final class BytecodeTest {

    private static final int MOST_CLASSES = 12;
    private static final int MOST_FIELDS = 20;
    private static final int MOST_PARAMETERS = 7;
    private static final int MOST_CALLS_DEEP = 8;
    private static final String EXCEPTIONS = "java/lang/(?:IllegalState|IllegalArgument|IndexOutOfBounds)Exception";

    /** What javac makes of an enum and of a switch over it; the rules are not about that. */
    private static final Pattern MADE_BY_JAVAC = Pattern.compile("WeatherTea\\$1\\..*|WeatherTea\\$Kind\\.(?:values|valueOf|\\$values|<clinit>|<init>)");
    private static final Pattern HEADER = Pattern.compile("^[a-z ]*(?:class|interface) ([\\w$]+).*\\{$");
    private static final Pattern FIELD = Pattern.compile("^ {2}([a-z ]*?)([\\w$.\\[\\]]+) [\\w$]+;$");
    private static final Pattern METHOD = Pattern.compile("^ {2}([a-z ]*?)(?:[\\w$.\\[\\]]+ )?([\\w$]+)\\((.*)\\).*;$");
    private static final Pattern STEP = Pattern.compile("^ +\\d+: (\\w+)(.*)$");
    private static final Pattern CALL = Pattern.compile("// (?:Interface)?Method (.*?):\\(");

    private static final Due due = new Due("BytecodeTest");
    /** The methods of the program, each with those that it calls. */
    private static final Map<String, Set<String>> calls = new TreeMap<>();
    private static final Map<String, String> modifiers = new TreeMap<>();
    private static final Map<String, Integer> fields = new TreeMap<>();
    private static final Set<String> outside = new TreeSet<>();

    public static void main(String[] args) throws IOException {
        for (String line : printed()) {
            read(line);
        }
        due.is("classes, but for the one that javac makes: " + fields.keySet(), fields.size() <= MOST_CLASSES + 1, true);
        for (Map.Entry<String, Integer> one : fields.entrySet()) {
            due.is("fields of " + one.getKey() + ": " + one.getValue(), one.getValue() <= MOST_FIELDS, true);
        }
        for (String call : outside) {
            boolean listed = call.matches("java/lang/(?:Object\\.<init>|String\\.(?:length|charAt)|Math\\.(?:min|max)|Integer\\.compare)");
            due.is("rule 4 lists " + call, listed || call.matches(EXCEPTIONS + "\\.<init>"), true);
        }
        theCallsAreFlat();
        due.is("methods were read", calls.size() > 100, true);
        due.end();
    }

    private static List<String> printed() throws IOException {
        List<String> arguments = new ArrayList<>(List.of("-p", "-c"));
        try (Stream<Path> files = Files.list(Path.of(System.getProperty("java.class.path")))) {
            arguments.addAll(files.map(Path::toString).filter(file -> file.matches(".*WeatherTea(?:\\$\\w+)?\\.class")).sorted().collect(Collectors.toList()));
        }
        StringWriter text = new StringWriter();
        int failed = ToolProvider.findFirst("javap").orElseThrow().run(new PrintWriter(text, true), new PrintWriter(System.out, true),
                arguments.toArray(new String[0]));
        due.is("javap", failed, 0);
        return text.toString().lines().collect(Collectors.toList());
    }

    // ---- what stands in one line

    private static String type = "";
    private static String method = "";

    private static void read(String line) {
        Matcher header = HEADER.matcher(line);
        Matcher field = FIELD.matcher(line);
        Matcher head = METHOD.matcher(line);
        Matcher step = STEP.matcher(line);
        if (header.matches()) {
            type = header.group(1);
            fields.put(type, 0);
        } else if (field.matches()) {
            readField(field);
        } else if (head.matches()) {
            boolean constructor = head.group(2).equals(type);
            begin(type + "." + (constructor ? "<init>" : head.group(2)), head.group(1));
            due.is("parameters of " + method, head.group(3).split(",").length <= MOST_PARAMETERS, true);
        } else if (line.equals("  static {};")) {
            begin(type + ".<clinit>", "static ");
        } else if (line.contains("Exception table:")) {
            due.is("nothing is caught in " + method, MADE_BY_JAVAC.matcher(method).matches(), true);
        } else if (step.matches()) {
            readStep(step.group(1), step.group(2));
        }
    }

    private static void begin(String name, String itsModifiers) {
        method = name;
        modifiers.put(name, itsModifiers);
        due.is(name + " stands once", calls.put(name, new TreeSet<>()) == null, true);
    }

    private static void readField(Matcher field) {
        if (field.group(1).contains("static ")) {
            due.is("a static " + field.group(2) + " of " + type + " is final", field.group(1).contains("final "), true);
        } else {
            fields.merge(type, 1, Integer::sum);
            boolean known = field.group(2).matches("(?:int|long|boolean|byte|java\\.lang\\.String|WeatherTea\\$\\w+)(?:\\[\\])?");
            due.is("rule 3 lists " + field.group(2) + " of " + type, known, true);
        }
    }

    private static void readStep(String step, String rest) {
        if (MADE_BY_JAVAC.matcher(method).matches()) {
            return;
        }
        boolean constructs = method.endsWith("<init>") || method.endsWith("<clinit>");
        if (step.matches("new|newarray|anewarray|multianewarray")) {
            boolean thrown = rest.matches(".*// class " + EXCEPTIONS);
            due.is(method + " makes nothing while a call runs: " + rest.trim(), constructs != thrown, true);
        } else if (step.equals("athrow")) {
            due.is(method + " is no constructor that throws", constructs, false);
        } else if (step.matches("[il](?:div|rem)")) {
            // A divisor that is looked at, and the half of a storm.
            due.is(method + " divides by what is not 0", method.matches("WeatherTea\\$(?:Reckoner\\.join|Pot\\.storm)"), true);
        } else if (step.startsWith("invoke")) {
            readCall(step, rest);
        } else {
            boolean never = step.matches("instanceof|checkcast|monitorenter|monitorexit|[fd](?:rem|neg)|[fd]2.|jsr|ret");
            due.is(method + " does without " + step, never, false);
        }
    }

    private static void readCall(String step, String rest) {
        Matcher call = CALL.matcher(rest);
        boolean told = call.find();
        due.is(method + " calls by a name: " + step, told && !step.equals("invokedynamic"), true);
        if (told) {
            String name = call.group(1).replace("\"", "");
            String whole = name.contains(".") ? name : type + "." + name;
            if (whole.startsWith("WeatherTea")) {
                calls.get(method).add(whole);
            } else if (!whole.equals("[LWeatherTea$Kind;.clone")) {
                outside.add(whole);
            }
        }
    }

    // ---- how deep calls go

    /** All that a method calls, and what these call, and so on. */
    private static Set<String> reached(String from) {
        Set<String> reached = new TreeSet<>();
        List<String> left = new ArrayList<>(calls.getOrDefault(from, Set.of()));
        while (!left.isEmpty()) {
            String next = left.remove(left.size() - 1);
            if (reached.add(next)) {
                left.addAll(calls.getOrDefault(next, Set.of()));
            }
        }
        return reached;
    }

    private static void theCallsAreFlat() {
        Map<String, Set<String>> reached = new TreeMap<>();
        for (String name : calls.keySet()) {
            reached.put(name, reached(name));
        }
        Map<String, Integer> deep = new TreeMap<>();
        for (String name : calls.keySet()) {
            if (reached.get(name).contains(name)) {
                due.is(name + ", which calls itself, is private and static", modifiers.get(name), "private static ");
            }
            int calledDeep = depth(name, reached, deep);
            due.is(name + " goes " + calledDeep + " calls deep", calledDeep <= MOST_CALLS_DEEP, true);
        }
    }

    /** How many calls stand open at most; methods that call one another count as one. */
    private static int depth(String name, Map<String, Set<String>> reached, Map<String, Integer> deep) {
        if (deep.containsKey(name)) {
            return deep.get(name);
        }
        Set<String> group = new TreeSet<>(Set.of(name));
        for (String other : reached.getOrDefault(name, Set.of())) {
            if (reached.getOrDefault(other, Set.of()).contains(name)) {
                group.add(other);
            }
        }
        int most = 0;
        for (String one : group) {
            for (String called : calls.getOrDefault(one, Set.of())) {
                if (!group.contains(called)) {
                    most = Math.max(most, depth(called, reached, deep));
                }
            }
        }
        deep.put(name, most + 1);
        return most + 1;
    }
}
