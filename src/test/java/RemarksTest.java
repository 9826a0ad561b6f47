import java.io.IOException;
import java.nio.file.Files;
import java.nio.file.Path;
import java.util.Arrays;
import java.util.List;
import java.util.Set;
import java.util.TreeSet;
import java.util.regex.Matcher;
import java.util.regex.Pattern;

/**
 * Each test of a sentence tells in a remark the promise and the sentence, and the sentence stands in the document; and
 * every sentence of the document is told by such a remark, or looked at by FaceTest, or one of those that no call shows.
 */
public final class RemarksTest {

    private static final int PROMISES = 38;
    private static final String[] EDGES = {"TapeEdgesTest", "GrammarEdgesTest", "PotEdgesTest", "CallEdgesTest"};
    private static final Pattern REMARK = Pattern.compile("(?:/\\*\\*|\\*) Promises? (\\d[\\d, toand]*): \"(.*)\"(?: \\*/)?$");
    private static final Pattern NUMBERS = Pattern.compile("(\\d+)(?: to (\\d+))?");
    private static final Pattern PROMISE = Pattern.compile("## Promise (\\d+):|## Not promised");

    /** What FaceTest looks at. */
    private static final Pattern[] FACE = {Pattern.compile("## The public face ```java public final class WeatherTea \\{.*?\\} ```"),
        Pattern.compile("## Promise \\d+: [\\w ]+ `[^`]*`:"), Pattern.compile("Ahead of the calls [^:]* the interface says: ---- [\\w ]+\\.")};

    private static final String[] SHOWN_BY_NO_CALL = {
        // Titles.
        "# WeatherTea ## What it is A machine that brews weather tea.", "## Terms", "== 1. The language", "Grammar.", "Errors.",
        "== 2. The pot", "An hour goes like this:",
        // What a pot may answer as it likes.
        "what later calls answer is free.",
        "## Not promised How the state is held inside the object is free, as are the speed of each call, the text of toString and the behaviour of equals"
                + " and hashCode. Use of one object from several threads at once is not promised to be safe. Nothing is promised beyond the answers and state"
                + " changes described above, and nothing about an object after its 512th call.",
        // A list of what the calls are for; each call has its promise. No call tells who will be stormed.
        "and one can ask how the tea is, which fronts are over the pot, who sits there and would like it, when it storms, who will be stormed, and what had"
                + " best be steeped.",
        // The answers' types say so, and the face has them; the mean force alone is not whole.
        "All numbers are whole"};

    /** What may be left between sentences that are told. */
    private static final Pattern BETWEEN = Pattern.compile("(?:```(?:text)?|This includes|and|[1-4]\\.|[\\s;:,.|])*");

    private static final Due due = new Due("RemarksTest");

    public static void main(String[] args) throws IOException {
        String document = Files.readString(Path.of("../shared/DOC.md")).replaceAll("\\s+", " ");
        boolean[] told = new boolean[document.length()];
        Set<Integer> promises = new TreeSet<>();
        for (String test : EDGES) {
            readRemarks(test, document, told, promises);
        }
        due.is("promises with a test of an edge: " + promises, promises.size(), PROMISES);
        readRemarks("SentencesTest", document, told, promises);
        for (Pattern face : FACE) {
            Matcher matcher = face.matcher(document);
            while (matcher.find()) {
                Arrays.fill(told, matcher.start(), matcher.end(), true);
            }
        }
        for (String sentence : SHOWN_BY_NO_CALL) {
            int at = document.indexOf(sentence);
            due.is("the document says <" + sentence + ">", at >= 0, true);
            if (at >= 0) {
                Arrays.fill(told, at, at + sentence.length(), true);
            }
        }
        nothingIsLeft(document, told);
        due.end();
    }

    /** Adds the promises that have a test, and marks the places of the document that a remark tells. */
    private static void readRemarks(String test, String document, boolean[] told, Set<Integer> promises) throws IOException {
        List<String> lines = Files.readAllLines(Path.of("src/test/java/" + test + ".java"));
        boolean remarked = false;
        for (String line : lines) {
            Matcher remark = REMARK.matcher(line);
            if (remark.find()) {
                due.is(test + ": the document says <" + remark.group(2) + ">", document.contains(remark.group(2)), true);
                Set<Integer> numbers = numbers(remark.group(1));
                mark(document, remark.group(2), numbers, told);
                // A remark that is of all promises is of none in particular.
                if (numbers.size() < PROMISES) {
                    promises.addAll(numbers);
                }
                remarked = true;
            } else if (line.matches(" {4}static void \\w+\\(\\) \\{")) {
                due.is(test + ": a remark ahead of" + line, remarked, true);
            } else if (line.equals("    }")) {
                remarked = false;
            }
        }
    }

    private static Set<Integer> numbers(String text) {
        Set<Integer> numbers = new TreeSet<>();
        Matcher matcher = NUMBERS.matcher(text);
        while (matcher.find()) {
            int first = Integer.parseInt(matcher.group(1));
            int last = matcher.group(2) == null ? first : Integer.parseInt(matcher.group(2));
            for (int promise = first; promise <= last; promise++) {
                numbers.add(promise);
            }
        }
        return numbers;
    }

    /** A sentence that stands with several promises is told only where it stands with one of the remark's. */
    private static void mark(String document, String sentence, Set<Integer> promises, boolean[] told) {
        for (int at = document.indexOf(sentence); at >= 0; at = document.indexOf(sentence, at + 1)) {
            int promise = promiseAt(document, at);
            if (promise == 0 || promises.contains(promise)) {
                Arrays.fill(told, at, at + sentence.length(), true);
            }
        }
    }

    /** The promise that a place belongs to; 0 ahead of the promises and behind them. */
    private static int promiseAt(String document, int at) {
        int promise = 0;
        Matcher matcher = PROMISE.matcher(document);
        while (matcher.find() && matcher.start() <= at) {
            promise = matcher.group(1) == null ? 0 : Integer.parseInt(matcher.group(1));
        }
        return promise;
    }

    private static void nothingIsLeft(String document, boolean[] told) {
        int at = 0;
        while (at < told.length) {
            int end = at;
            while (end < told.length && told[end] == told[at]) {
                end++;
            }
            String part = document.substring(at, end);
            if (!told[at]) {
                due.is("a test or a reason for <" + part + ">", BETWEEN.matcher(part).matches(), true);
            }
            at = end;
        }
    }
}
