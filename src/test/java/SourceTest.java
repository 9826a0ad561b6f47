import java.io.IOException;
import java.nio.file.Files;
import java.nio.file.Path;
import java.util.List;
import java.util.Set;
import java.util.TreeSet;
import java.util.regex.Matcher;
import java.util.regex.Pattern;

/** What of ../shared/LANGUAGE.md can be seen in the text of the program. It is run in the project's own folder. */
public final class SourceTest {

    private static final Pattern FORBIDDEN = Pattern.compile("\\b(import|package|protected|try|catch|finally|synchronized|assert"
            + "|native|transient|volatile|strictfp|System|Object|Class|Thread|Exception|Long|Double|Float|Arrays|ordinal|hashCode"
            + "|toString|equals|getMessage|while\\s*\\(true\\)|for\\s*\\(;;\\))\\b|->|::|\\$");
    private static final Pattern THROW = Pattern.compile("throw new (\\w+)\\(\"[ -~]*\"\\);");
    private static final Pattern METHOD = Pattern.compile("^( {4}| {8})(?! )[\\w\\[\\] ]*\\(.*\\{$|^( {4}| {8})(?! )[\\w\\[\\] ]*\\([^;]*$");

    public static void main(String[] args) throws IOException {
        Due due = new Due("SourceTest");
        List<String> lines = Files.readAllLines(Path.of("src/main/java/WeatherTea.java"));
        Set<String> thrown = new TreeSet<>();
        int start = -1;
        String end = null;
        for (int i = 0; i < lines.size(); i++) {
            String line = lines.get(i);
            due.is("line " + (i + 1) + " is 7-bit text", line.chars().allMatch(sign -> sign >= 32 && sign < 127), true);
            due.is("line " + (i + 1) + " is short: " + line.length(), line.length() <= 120, true);
            String code = line.replaceAll("\"[^\"]*\"", "\"\"").replaceAll("//.*|/?\\*\\*? .*", "");
            Matcher forbidden = FORBIDDEN.matcher(code);
            due.is("line " + (i + 1) + " keeps to the language: " + line, forbidden.find(), false);
            Matcher matcher = THROW.matcher(line);
            due.is("line " + (i + 1) + " throws a new one with a text", code.contains("throw ") && !matcher.find(), false);
            matcher.reset();
            if (matcher.find()) {
                thrown.add(matcher.group(1));
            }
            if (end == null && METHOD.matcher(line).find()) {
                start = i;
                end = line.substring(0, line.length() - line.stripLeading().length()) + "}";
                due.is("line " + (i + 1) + " has at most seven parameters", line.split(",").length <= 7, true);
            } else if (end != null && line.equals(end)) {
                due.is("the method of line " + (start + 1) + " is short", i - start < 60, true);
                end = null;
            }
        }
        due.is("what is thrown: " + thrown,
                thrown.equals(Set.of("IllegalArgumentException", "IllegalStateException", "IndexOutOfBoundsException")), true);
        due.is("classes inside, the outer one with them", lines.stream().filter(line -> line.matches(".*\\b(class|enum) \\w+ \\{")).count() <= 12, true);
        due.end();
    }
}
