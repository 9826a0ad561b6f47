import java.io.IOException;
import java.nio.file.Files;
import java.nio.file.Path;
import java.util.List;
import java.util.Set;
import java.util.TreeSet;
import java.util.regex.Matcher;
import java.util.regex.Pattern;

/** Each test of an edge tells in a remark the promise and the sentence, and the sentence stands in the document. */
public final class RemarksTest {

    private static final int PROMISES = 38;
    private static final Pattern REMARK = Pattern.compile("(?:/\\*\\*|\\*) Promises? (\\d[\\d, toand]*): \"(.*)\"(?: \\*/)?$");
    private static final Pattern NUMBERS = Pattern.compile("(\\d+)(?: to (\\d+))?");

    public static void main(String[] args) throws IOException {
        Due due = new Due("RemarksTest");
        String document = Files.readString(Path.of("../shared/DOC.md")).replaceAll("\\s+", " ");
        Set<Integer> promises = new TreeSet<>();
        for (String test : new String[] {"TapeEdgesTest", "GrammarEdgesTest", "PotEdgesTest", "CallEdgesTest"}) {
            List<String> lines = Files.readAllLines(Path.of("src/test/java/" + test + ".java"));
            boolean told = false;
            for (String line : lines) {
                Matcher remark = REMARK.matcher(line);
                if (remark.find()) {
                    due.is(test + ": the document says <" + remark.group(2) + ">", document.contains(remark.group(2)), true);
                    addAll(promises, remark.group(1));
                    told = true;
                } else if (line.matches(" {4}static void \\w+\\(\\) \\{")) {
                    due.is(test + ": a remark ahead of" + line, told, true);
                } else if (line.equals("    }")) {
                    told = false;
                }
            }
        }
        due.is("promises with a test of an edge: " + promises, promises.size(), PROMISES);
        due.end();
    }

    /** Numbers of a remark that is of all promises do not count. */
    private static void addAll(Set<Integer> promises, String numbers) {
        Matcher matcher = NUMBERS.matcher(numbers);
        while (!numbers.equals("1 to " + PROMISES) && matcher.find()) {
            int first = Integer.parseInt(matcher.group(1));
            int last = matcher.group(2) == null ? first : Integer.parseInt(matcher.group(2));
            for (int promise = first; promise <= last; promise++) {
                promises.add(promise);
            }
        }
    }
}
