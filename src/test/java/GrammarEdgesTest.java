/** The edges of the grammar, of the depth and of errors, promises 4 and 5. A remark tells the promise and the sentence. */
public final class GrammarEdgesTest {

    private static final Due due = new Due("GrammarEdgesTest");
    private static final Reading reading = new Reading(due);
    private static final String FRONT = "front f is warm force 3 at 0 for 5;";
    private static final String GUEST = "guest g at 0 likes 0 to 9 nerve 5;";

    public static void main(String[] args) {
        due.runAll(GrammarEdgesTest.class);
    }

    private static String fronts(int n) {
        StringBuilder text = new StringBuilder();
        for (int i = 0; i < n; i++) {
            text.append(FRONT.replace(" f ", " f" + i + " "));
        }
        return text.toString();
    }

    private static String guests(int n) {
        StringBuilder text = new StringBuilder();
        for (int i = 0; i < n; i++) {
            text.append(GUEST.replace(" g ", " g" + i + " "));
        }
        return text.toString();
    }

    /** A plan of n tokens, at least 6, whose last one is a semicolon. */
    private static String planOfTokens(int n) {
        String sum = (n % 2 == 0 ? "1" : "-1") + "+1".repeat((n - 6) / 2);
        return "lemon when " + sum + "=1;";
    }

    // ---- the grammar

    /** Promise 4: "{ x } x any number of times, also none" */
    static void aPlanHasAnyNumberOfLines() {
        reading.plan("");
        reading.plan("lemon;");
        reading.plan("lemon;".repeat(16));
        reading.errorAtMark("^;", 1);
        reading.errorAtMark("lemon;^;", 1);
        reading.errorAtMark("^lemons;", 1);
        reading.plan("lemon when 1=1" + " or 1=1".repeat(90) + ";");
        reading.plan("lemon when 1=1" + " and 1=1".repeat(90) + ";");
        reading.plan("lemon when 1" + "+1-1".repeat(90) + "=1;");
        reading.plan("lemon when 1" + "*1/1".repeat(90) + "=1;");
    }

    /** Promise 4: "[ x ] outside of quotation marks means x or nothing" */
    static void anOrderHasATestOrNone() {
        reading.plan(FRONT + GUEST + "steep f; serve g; lemon; saucer;");
        reading.plan(FRONT + GUEST + "steep f when 1=1; serve g when 1=1; lemon when 1=1; saucer when 1=1;");
        reading.errorAtMark(FRONT + "steep f when^;", 1);
        reading.errorAtMark(FRONT + "steep f when 1=1 ^when 1=1;", 1);
        reading.errorAtMark(FRONT + "steep f ^1=1;", 1);
        reading.errorAtMark("front f is warm force 3 at 0 for 5 ^when 1=1;", 1);
    }

    /** Promise 4: "Error 1: the first token with which the tokens so far are not the beginning of a plan." */
    static void noTokenCanBeLeftOutOfALine() {
        String[] plans = {"front f is warm force 3 at 0 for 5 ; front h is cold force 4 at 1 for 2 ; guest g at 0 likes 1 to 2 nerve 3 ; ",
            "lemon ; saucer ; steep f ; serve g ; lemon when 1 = 1 ; saucer when hour < 2 ; steep f when warmth > 3 ; ",
            "serve g when not [ over f or seated g and content g ] and storms <= lemons ; lemon when saucers >= charge ; ",
            "lemon when - ( strength + 2 ) * 3 - 4 / min ( 1 , force of f ) = max ( 1 + 2 , - - 3 ) or 1 = 1 ; "};
        for (String plan : plans) {
            for (int at = 0; at <= plan.length(); at++) {
                boolean beginsToken = at == plan.length() || at > 0 && plan.charAt(at - 1) == ' ';
                if (beginsToken || at == 0) {
                    String ahead = plan.substring(0, at);
                    reading.error(ahead + "@", 1, at);
                    reading.error(ahead + "lemon7890123 ;", 1, at);
                    reading.error(ahead + "1234567 ;", 1, at);
                    if (!ahead.isEmpty() && !ahead.endsWith("; ")) {
                        reading.error(ahead, 1, at);
                        reading.error(ahead + "front", 1, at);
                    }
                }
            }
        }
    }

    /** Promise 4: "line = "front" name "is" ( "warm" | "cold" ) "force" number "at" number "for" number" */
    static void noLineEndsTooSoonOrTooLate() {
        String[] lines = {"front f is warm force 3 at 0 for 5", "front h is cold force 3 at 0 for 5", "guest g at 0 likes 0 to 9 nerve 5"};
        for (String line : lines) {
            String[] tokens = line.split(" ");
            StringBuilder ahead = new StringBuilder();
            for (String token : tokens) {
                reading.errorAtMark(ahead + "^;", 1);
                ahead.append(token).append(' ');
            }
            reading.plan(ahead + ";");
            for (String token : tokens) {
                reading.errorAtMark(ahead + "^" + token + ";", 1);
            }
        }
        for (String order : new String[] {"steep", "serve", "steep f when", "serve g when", "lemon when", "lemon when not", "lemon when over",
            "lemon when 1", "lemon when 1 =", "lemon when 1 = 1 and", "lemon when 1 = 1 or", "lemon when [", "lemon when [ 1 = 1", "lemon when force",
            "lemon when force of", "lemon when -", "lemon when (", "lemon when ( 1", "lemon when min", "lemon when min (", "lemon when min ( 1",
            "lemon when min ( 1 ,", "lemon when min ( 1 , 1", "lemon when min ( 1 , 1 )", "lemon when 1 +", "lemon when 1 = 1 *"}) {
            reading.errorAtMark(FRONT + GUEST + order + " ^;", 1);
        }
    }

    /** Promise 4: "single = "not" single | "[" test "]" | ( "over" | "seated" | "content" ) name | sum" */
    static void bracketsAreForTestsAndSumsHaveTheirOwn() {
        reading.plan("lemon when [1=1];");
        reading.plan("lemon when (1)=1;");
        reading.errorAtMark("lemon when [1^]=1;", 1);
        reading.errorAtMark("lemon when (1^=1);", 1);
        reading.errorAtMark("lemon when (^not 1=1);", 1);
        reading.errorAtMark("lemon when [(1)^];", 1);
        reading.errorAtMark("lemon when 1=^[1];", 1);
        reading.errorAtMark("lemon when [1=1]^=1;", 1);
        reading.errorAtMark("lemon when (1^]=1;", 1);
        reading.errorAtMark("lemon when [1=1^);", 1);
        reading.errorAtMark("lemon when (^)=1;", 1);
        reading.errorAtMark("lemon when [^];", 1);
        reading.errorAtMark("lemon when [1=1^;", 1);
        reading.errorAtMark("lemon when 1=1^];", 1);
        reading.errorAtMark("lemon when 1=1^);", 1);
        reading.errorAtMark("lemon when 1=1^=1;", 1);
        reading.errorAtMark("lemon when not^;", 1);
        reading.errorAtMark("lemon when 1=^not 1;", 1);
        reading.errorAtMark(FRONT + "lemon when over f ^= 1;", 1);
    }

    /** Promise 4: "( "min" | "max" ) "(" sum "," sum ")"" */
    static void minAndMaxTakeTwo() {
        reading.plan("lemon when min(1,2)=max(1,2);");
        reading.errorAtMark("lemon when min(^)=1;", 1);
        reading.errorAtMark("lemon when min(1^)=1;", 1);
        reading.errorAtMark("lemon when min(1,^)=1;", 1);
        reading.errorAtMark("lemon when min(1,2^,3)=1;", 1);
        reading.errorAtMark("lemon when max ^1,2=1;", 1);
        reading.errorAtMark("lemon when (1^,2)=1;", 1);
    }

    /** Promise 4: "value = number | "hour" | "warmth" | "strength" | "charge" | "lemons" | "saucers" | "storms" | "force" "of" name" */
    static void otherWordsAreNoValues() {
        for (String word : new String[] {"hour", "warmth", "strength", "charge", "lemons", "saucers", "storms", "0"}) {
            reading.plan("lemon when " + word + "=1;");
            reading.plan("lemon when 1=" + word + ";");
        }
        for (String word : new String[] {"f", "g", "coins", "served", "lemon", "saucer", "front", "over", "seated", "at", "of", "+", "*"}) {
            reading.errorAtMark(FRONT + GUEST + "lemon when 1=^" + word + ";", 1);
        }
        reading.errorAtMark(FRONT + "lemon when force ^f=1;", 1);
        reading.errorAtMark(FRONT + "lemon when force of ^1=1;", 1);
        reading.errorAtMark(FRONT + "lemon when force of f ^f=1;", 1);
    }

    // ---- depth

    /**
     * Promise 4: "Depth. It is 0 at the beginning"
     * Promise 4: "It may be at most 8."
     */
    static void theDepthIsAtMost8() {
        reading.plan("lemon when " + "(".repeat(8) + "1" + ")".repeat(8) + "=1;");
        reading.plan("lemon when " + "[".repeat(8) + "1=1" + "]".repeat(8) + ";");
        reading.plan("lemon when " + "-".repeat(8) + "1=1;");
        reading.plan("lemon when " + "not ".repeat(8) + "1=1;");
        reading.plan("lemon when " + "min(".repeat(8) + "1" + ",1)".repeat(8) + "=1;");
        reading.plan("lemon when " + "max(1,".repeat(8) + "1" + ")".repeat(8) + "=1;");
        reading.plan("lemon when 1=" + "-(".repeat(4) + "1" + ")".repeat(4) + ";");
        reading.plan("lemon when " + "not [".repeat(4) + "1=1" + "]".repeat(4) + ";");
        reading.plan("lemon when not [not [-(-min(1, 2))=1]];");
    }

    /** Promise 4: "the (, [, - or not behind which the depth would be 9" */
    static void whatWouldOpenADepthOf9() {
        reading.errorAtMark("lemon when " + "(".repeat(8) + "^(1" + ")".repeat(9) + "=1;", 1);
        reading.errorAtMark("lemon when " + "[".repeat(8) + "^[1=1" + "]".repeat(9) + ";", 1);
        reading.errorAtMark("lemon when " + "-".repeat(8) + "^-1=1;", 1);
        reading.errorAtMark("lemon when " + "not ".repeat(8) + "^not 1=1;", 1);
        reading.errorAtMark("lemon when " + "min(".repeat(8) + "min^(1" + ",1)".repeat(9) + "=1;", 1);
        reading.errorAtMark("lemon when " + "max(1,".repeat(8) + "max^(1,1" + ")".repeat(9) + "=1;", 1);
        // The mark is at what opens the depth of 8.
        for (String value : new String[] {"(((((((^(1))))))))", "-------^-1", "-(-(-(-^(1))))", "max(1,------^-1)", "-(-(-(-min^(1,1))))"}) {
            reading.plan("lemon when " + value.replace("^", "") + "=1;");
            reading.errorAtMark("lemon when [" + value + "=1];", 1);
            reading.errorAtMark("lemon when not " + value + "=1;", 1);
            reading.errorAtMark("lemon when -" + value + "=1;", 1);
            reading.errorAtMark("lemon when min(1," + value + ")=1;", 1);
        }
        for (String opener : new String[] {"^(1)", "^-1", "min^(1,1)", "max^(1,1)"}) {
            reading.errorAtMark("lemon when " + "[".repeat(8) + opener + "=1" + "]".repeat(8) + ";", 1);
            reading.errorAtMark("lemon when " + "not ".repeat(8) + opener + "=1;", 1);
            reading.errorAtMark("lemon when " + "-".repeat(8) + opener + "=1;", 1);
            reading.errorAtMark("lemon when " + "(".repeat(8) + opener + ")".repeat(8) + "=1;", 1);
        }
        reading.errorAtMark("lemon when " + "not ".repeat(8) + "^[1=1];", 1);
        reading.errorAtMark("lemon when " + "[".repeat(8) + "^not 1=1" + "]".repeat(8) + ";", 1);
    }

    /** Promise 4: "1 greater between a ( and its ), a [ and its ]" */
    static void theDepthEndsWithTheClosingOne() {
        String eight = "(".repeat(8) + "1" + ")".repeat(8);
        reading.plan("lemon when " + eight + "+" + eight + "*" + eight + "=" + eight + ";");
        reading.plan("lemon when " + "[".repeat(8) + "1=1" + "]".repeat(8) + " and " + "[".repeat(8) + "1=1" + "]".repeat(8) + ";");
        reading.plan("lemon when min(1,2)+max(3,4)+min(5,6)+(7)+(8)+(9)+(10)+(11)+(12)+" + eight + "=1;");
        String seven = "(".repeat(7) + "1" + ")".repeat(7);
        reading.plan("lemon when min(" + seven + "," + seven + ")=1;");
        reading.errorAtMark("lemon when min(" + seven + ",(((((((^(1))))))))=1;", 1);
        reading.errorAtMark("lemon when (" + seven + "+" + "(".repeat(7) + "^(1" + ")".repeat(9) + "=1;", 1);
    }

    /** Promise 4: "behind a - in front (of a value) for what it turns" */
    static void aMinusInFrontCountsForItsValueAlone() {
        String eight = "-".repeat(8) + "1";
        reading.plan("lemon when " + eight + "-" + eight + "*" + eight + "=" + eight + ";");
        reading.plan("lemon when 1" + "-1".repeat(20) + "=1;");
        reading.plan("lemon when 1-" + eight + "=1;");
        reading.errorAtMark("lemon when 1-" + "-".repeat(8) + "^-1=1;", 1);
        reading.plan("lemon when -1*" + eight + "=1;");
        reading.plan("lemon when -(" + "-".repeat(6) + "1)*" + eight + "=1;");
        reading.errorAtMark("lemon when -(" + "-".repeat(6) + "^-1)*" + eight + "=1;", 1);
        reading.plan("lemon when -min(" + "-".repeat(6) + "1," + "-".repeat(6) + "1)=1;");
        reading.errorAtMark("lemon when -min(" + "-".repeat(6) + "1," + "-".repeat(6) + "^-1)=1;", 1);
    }

    /** Promise 4: "behind a not for what it turns" */
    static void aNotCountsForItsSingleAlone() {
        reading.plan("lemon when " + "not ".repeat(8) + "1=1 and " + "not ".repeat(8) + "1=1 or " + "not ".repeat(8) + "1=1;");
        reading.plan("lemon when not -------1=-------1;");
        reading.errorAtMark("lemon when not -------^-1=1;", 1);
        reading.errorAtMark("lemon when not 1=-------^-1;", 1);
        reading.errorAtMark("lemon when not 1=2*-------^-1;", 1);
        reading.plan("lemon when not 1=1 and --------1=1;");
        reading.plan("lemon when not [1=1] or --------1=1;");
        reading.plan("lemon when not [------1=1 and ------1=1];");
        reading.errorAtMark("lemon when not [------1=1 and ------^-1=1];", 1);
        reading.plan(FRONT + "lemon when " + "not ".repeat(8) + "over f;");
        reading.errorAtMark(FRONT + "lemon when " + "not ".repeat(8) + "^not over f;", 1);
    }

    // ---- error 1

    /** Promise 4: "a byte with which no token begins" */
    static void aByteWithWhichNoTokenBegins() {
        for (int sign = 0; sign < 256; sign++) {
            boolean known = sign >= 'a' && sign <= 'z' || sign >= '0' && sign <= '9' || "()[];,+-*/<>= \n".indexOf(sign) >= 0;
            if (!known) {
                reading.error("lemon when 1=1;" + (char) sign, 1, 15);
                reading.error("lemon when 1=" + (char) sign + "1;", 1, 13);
                reading.error("front f" + (char) sign, 1, 7);
            }
        }
    }

    /** Promise 4: "a word or number that is too long" */
    static void aWordOrNumberThatIsTooLong() {
        reading.errorAtMark("^abcdefghijk", 1);
        reading.errorAtMark("^1234567", 1);
        reading.errorAtMark("front f is warm force 3 at 0 for ^1234567;", 1);
        reading.errorAtMark("steep ^abcdefghijk;", 1);
        reading.errorAtMark("lemon ^abcdefghijk;", 1);
        // What does not fit ahead of it is told first.
        reading.errorAtMark("lemon ^, abcdefghijk;", 1);
        reading.errorAtMark("lemon ^3 1234567;", 1);
    }

    /** Promise 4: "the end of the tape (at its length)" */
    static void theEndOfTheTape() {
        reading.errorAtMark("lemon^", 1);
        reading.errorAtMark("lemon   ^", 1);
        reading.errorAtMark("lemon\n^", 1);
        reading.errorAtMark("lemon;lemon^", 1);
        reading.errorAtMark("front^", 1);
        reading.errorAtMark("lemon when 1=1^", 1);
        reading.errorAtMark("lemon when 1=1 or ^", 1);
        reading.errorAtMark("lemon" + " ".repeat(1995) + "^", 1);
        reading.plan("lemon;");
        reading.plan("lemon; \n ");
    }

    /** Promise 4: "the token that would be the 401st (the end of the tape not counted)" */
    static void the401stToken() {
        for (int tokens : new int[] {6, 7, 399, 400}) {
            reading.plan(planOfTokens(tokens));
            reading.plan(planOfTokens(tokens) + " \n");
        }
        reading.errorAtMark(planOfTokens(400) + "^lemon;", 1);
        reading.errorAtMark(planOfTokens(400) + "  ^;", 1);
        reading.errorAtMark(planOfTokens(400) + "^@", 1);
        reading.errorAtMark(planOfTokens(400) + "\n^abcdefghijk", 1);
        reading.errorAtMark(planOfTokens(399) + "^;", 1);
        reading.errorAtMark(planOfTokens(399) + "lemon^;", 1);
        reading.errorAtMark(planOfTokens(398) + "lemon;^lemon;", 1);
        reading.plan(planOfTokens(398) + "lemon;");
        // At its length, if the 400 tokens are not a whole plan.
        reading.errorAtMark(planOfTokens(399) + "lemon ^", 1);
        String cut = planOfTokens(401);
        reading.errorAtMark(cut.substring(0, cut.length() - 1) + "^;", 1);
        reading.errorAtMark(cut.substring(0, cut.length() - 1) + "^", 1);
    }

    /** Promise 5: "The position is that of its first byte." */
    static void thePositionIsThatOfTheFirstByte() {
        reading.errorAtMark("lemon ^lemon;", 1);
        reading.errorAtMark("lemon when 1 ^123456;", 1);
        reading.errorAtMark("lemon when 1 = ^<= 2;", 1);
        reading.errorAtMark("lemon\n\n ^abcdefghijk;", 1);
        reading.errorAtMark(FRONT + "steep ^abcdefghij;", 3);
        reading.errorAtMark("front f is warm force ^000010 at 0 for 5;", 5);
    }

    // ---- errors 2 to 5

    /** Promise 4: "Only if there is no error 1, keywords, names and numbers are looked at" */
    static void error1IsToldAheadOfAllOthers() {
        String[] wrong = {FRONT + FRONT, GUEST + GUEST, "steep f;", "serve g;", "lemon when over f;", fronts(11), guests(11),
            "lemon;".repeat(17), "front f is warm force 0 at 61 for 13;", "guest g at 61 likes 31 to 31 nerve 21;"};
        int[] errors = {2, 2, 3, 3, 3, 4, 4, 4, 5, 5};
        for (int i = 0; i < wrong.length; i++) {
            WeatherTea tea = new WeatherTea();
            due.is("teach() of <" + wrong[i] + ">", Tea.teach(tea, wrong[i]), errors[i]);
            reading.errorAtMark(wrong[i] + "^@", 1);
            reading.errorAtMark(wrong[i] + "lemon^", 1);
            reading.errorAtMark(wrong[i] + "lemon when ^;", 1);
        }
    }

    /** Promise 4: "are looked at from left to right, and the first error is told, at its token" */
    static void theFirstErrorFromTheLeft() {
        String[] wrong = {"front ^x is warm force 3 at 0 for 5;", "guest ^y at 0 likes 0 to 9 nerve 5;", "steep ^z;", "serve ^z;",
            "lemon when over ^z;", "lemon when force of ^z = 1;", "saucer when seated ^z;", "front h is warm force ^0 at 0 for 5;",
            "guest h at 0 likes 9 to ^8 nerve 5;", "guest h at 0 likes 9 to 9 nerve ^21;"};
        int[] errors = {2, 2, 3, 3, 3, 3, 3, 5, 5, 5};
        String told = "front x is cold force 1 at 0 for 1; guest y at 0 likes 1 to 1 nerve 1;";
        for (int i = 0; i < wrong.length; i++) {
            for (String other : wrong) {
                reading.errorAtMark(told + wrong[i] + other.replace("^", ""), errors[i]);
            }
        }
        // The same in one line.
        reading.errorAtMark("front f is warm force ^0 at 61 for 13;", 5);
        reading.errorAtMark("front f is warm force 1 at ^61 for 13;", 5);
        reading.errorAtMark("guest g at ^61 likes 31 to 30 nerve 21;", 5);
        reading.errorAtMark("guest g at 60 likes ^31 to 30 nerve 21;", 5);
        reading.errorAtMark("guest g at 60 likes 30 to ^29 nerve 21;", 5);
        reading.errorAtMark(FRONT + "front ^f is warm force 0 at 61 for 13;", 2);
        reading.errorAtMark("serve ^g when over f and 1 = force of h;", 3);
        reading.errorAtMark("lemon;".repeat(16) + "^steep f;", 4);
        reading.errorAtMark("lemon;".repeat(15) + "steep ^f; lemon;", 3);
    }

    /** Promise 4: "of errors at one token the one with the smallest number" */
    static void theSmallestErrorOfOneToken() {
        for (int i = 0; i < 10; i++) {
            reading.errorAtMark(fronts(10) + "front ^f" + i + " is warm force 3 at 0 for 5;", 2);
            reading.errorAtMark(guests(10) + "guest ^g" + i + " at 0 likes 0 to 9 nerve 5;", 2);
        }
        reading.errorAtMark(fronts(10) + "front ^f is warm force 3 at 0 for 5;", 4);
        reading.errorAtMark(guests(10) + "guest ^g at 0 likes 0 to 9 nerve 5;", 4);
    }

    /** Promise 4: "Error 2: the name behind front is that of a front told ahead, or the one behind guest that of a guest told ahead." */
    static void error2() {
        reading.errorAtMark(FRONT + "front ^f is cold force 4 at 1 for 1;", 2);
        reading.errorAtMark(GUEST + "guest ^g at 1 likes 1 to 1 nerve 1;", 2);
        reading.errorAtMark(fronts(9) + "front ^f0 is cold force 4 at 1 for 1;", 2);
        reading.errorAtMark(fronts(9) + "front ^f8 is cold force 4 at 1 for 1;", 2);
        reading.errorAtMark(guests(9) + "guest ^g0 at 1 likes 1 to 1 nerve 1;", 2);
        reading.errorAtMark(guests(9) + "guest ^g8 at 1 likes 1 to 1 nerve 1;", 2);
        reading.plan(FRONT + FRONT.replace(" f ", " ff ") + FRONT.replace(" f ", " f0 ") + FRONT.replace(" f ", " g "));
        // Names of an earlier plan are not told ahead.
        WeatherTea tea = Tea.brewed(FRONT + GUEST);
        due.is("teach() of the same again", Tea.teach(tea, FRONT + GUEST), 0);
    }

    /** Promise 4: "A front can have the name of a guest." */
    static void aFrontCanHaveTheNameOfAGuest() {
        reading.plan(FRONT + "guest f at 0 likes 0 to 9 nerve 5;");
        reading.plan("guest f at 0 likes 0 to 9 nerve 5;" + FRONT);
        WeatherTea tea = Tea.brewed("guest a at 0 likes 0 to 9 nerve 5; front b is warm force 2 at 0 for 5;"
                + "front a is warm force 3 at 0 for 5; guest b at 0 likes 3 to 9 nerve 5; steep a; serve b;");
        tea.passHours(1);
        due.is("steep a took the front", tea.isSteeped(1) && !tea.isSteeped(0), true);
        due.is("serve b took the guest", tea.wasServed(1) && !tea.wasServed(0), true);
    }

    /** Promise 4: "Error 3: another name is none of what it has to be, told ahead: behind steep, over and force of, a front" */
    static void error3OfFronts() {
        for (String use : new String[] {"steep ^f;", "lemon when over ^f;", "lemon when force of ^f=1;", "lemon when not [1=1 or over ^f];"}) {
            reading.plan(FRONT + use.replace("^", ""));
            reading.errorAtMark(use, 3);
            reading.errorAtMark(use + FRONT, 3);
            reading.errorAtMark("guest f at 0 likes 0 to 9 nerve 5;" + use, 3);
            reading.errorAtMark(FRONT.replace(" f ", " ff ") + use, 3);
            reading.plan(fronts(10) + use.replace("^f", "f9"));
            reading.errorAtMark(fronts(9) + use.replace("^f", "^f9"), 3);
        }
        WeatherTea tea = Tea.brewed(FRONT);
        due.is("steep f of an earlier plan", Tea.teach(tea, "steep f;"), 3);
    }

    /** Promise 4: "behind serve, seated and content, a guest" */
    static void error3OfGuests() {
        for (String use : new String[] {"serve ^g;", "lemon when seated ^g;", "lemon when content ^g;", "lemon when 1=1 and not content ^g;"}) {
            reading.plan(GUEST + use.replace("^", ""));
            reading.errorAtMark(use, 3);
            reading.errorAtMark(use + GUEST, 3);
            reading.errorAtMark("front g is warm force 3 at 0 for 5;" + use, 3);
            reading.errorAtMark(GUEST.replace(" g ", " gg ") + use, 3);
            reading.plan(guests(10) + use.replace("^g", "g9"));
            reading.errorAtMark(guests(9) + use.replace("^g", "^g9"), 3);
        }
        WeatherTea tea = Tea.brewed(GUEST);
        due.is("serve g of an earlier plan", Tea.teach(tea, "serve g;"), 3);
    }

    /** Promise 4: "Error 4: the name of the 11th front or of the 11th guest" */
    static void error4OfFrontsAndGuests() {
        reading.plan(fronts(10));
        reading.plan(guests(10));
        reading.plan(fronts(10) + guests(10));
        reading.errorAtMark(fronts(10) + guests(10) + "front ^x is warm force 3 at 0 for 5;", 4);
        reading.errorAtMark(fronts(10) + guests(10) + "guest ^x at 0 likes 0 to 9 nerve 5;", 4);
        reading.errorAtMark(fronts(10) + "front ^x is warm force 3 at 0 for 5;" + "front y is warm force 3 at 0 for 5;", 4);
        reading.errorAtMark(guests(10) + "guest ^x at 61 likes 0 to 9 nerve 5;", 4);
        due.is("fronts() of ten", Tea.brewed(fronts(10)).fronts(), 10);
        due.is("guests() of ten", Tea.brewed(guests(10)).guests(), 10);
    }

    /** Promise 4: "or the first word of the 17th order" */
    static void error4OfOrders() {
        String both = FRONT + GUEST;
        for (String order : new String[] {"lemon;", "saucer;", "steep f;", "serve g;", "lemon when 1=1;"}) {
            reading.plan(both + order.repeat(16));
            reading.errorAtMark(both + order.repeat(16) + "^" + order, 4);
            reading.errorAtMark(both + order.repeat(16) + "^" + order.repeat(2), 4);
        }
        reading.errorAtMark(both + "lemon;saucer;steep f;serve g;".repeat(4) + "^steep x;", 4);
        reading.plan(both + "lemon;".repeat(16) + FRONT.replace(" f ", " h ") + GUEST.replace(" g ", " h "));
        WeatherTea tea = Tea.brewed(FRONT + "lemon when 1=2;".repeat(15) + "steep f;");
        tea.passHours(1);
        due.is("the 16th order is followed", tea.strength(), 3);
        WeatherTea later = Tea.brewed(FRONT + "lemon when 1=2;".repeat(15) + "steep f when hour=1;");
        later.passHours(1);
        due.is("the 16th order has a test", later.strength(), 0);
        later.passHours(1);
        due.is("the test of the 16th order holds", later.strength(), 3);
    }

    /** Promise 4: "Error 5: the number behind force is not 1 to 9, that behind at is greater than 60, that behind for, of a front, is not 1 to 12" */
    static void error5OfFronts() {
        for (int force : new int[] {1, 2, 8, 9}) {
            reading.plan("front f is warm force " + force + " at 0 for 1;");
        }
        for (int force : new int[] {0, 10, 11, 999999}) {
            reading.errorAtMark("front f is warm force ^" + force + " at 0 for 1;", 5);
            reading.errorAtMark("front f is cold force ^" + force + " at 0 for 1;", 5);
        }
        for (int at : new int[] {0, 1, 59, 60}) {
            reading.plan("front f is warm force 1 at " + at + " for 1;");
        }
        for (int at : new int[] {61, 62, 999999}) {
            reading.errorAtMark("front f is warm force 1 at ^" + at + " for 1;", 5);
        }
        for (int hours : new int[] {1, 2, 11, 12}) {
            reading.plan("front f is warm force 1 at 0 for " + hours + ";");
        }
        for (int hours : new int[] {0, 13, 999999}) {
            reading.errorAtMark("front f is warm force 1 at 0 for ^" + hours + ";", 5);
        }
        // Numbers of tests have no such bounds.
        reading.plan("lemon when 0=999999;");
    }

    /** Promise 4: "that behind likes, or to, is greater than 30, that behind to less than the one behind likes; that behind nerve is greater than 20" */
    static void error5OfGuests() {
        for (String right : new String[] {"at 0 likes 0 to 0 nerve 0", "at 60 likes 30 to 30 nerve 20", "at 59 likes 0 to 30 nerve 19",
            "at 1 likes 29 to 30 nerve 1", "at 1 likes 7 to 7 nerve 1", "at 1 likes 7 to 8 nerve 1"}) {
            reading.plan("guest g " + right + ";");
        }
        for (String wrong : new String[] {"at ^61 likes 0 to 0 nerve 0", "at ^999999 likes 0 to 0 nerve 0", "at 0 likes ^31 to 31 nerve 0",
            "at 0 likes ^31 to 30 nerve 0", "at 0 likes ^999999 to 0 nerve 0", "at 0 likes 0 to ^31 nerve 0", "at 0 likes 30 to ^31 nerve 0",
            "at 0 likes 0 to ^999999 nerve 0", "at 0 likes 1 to ^0 nerve 0", "at 0 likes 30 to ^29 nerve 0", "at 0 likes 8 to ^7 nerve 0",
            "at 0 likes 0 to 0 nerve ^21", "at 0 likes 0 to 0 nerve ^999999"}) {
            reading.errorAtMark("guest g " + wrong + ";", 5);
        }
    }

    /** Promise 4: "Fronts, guests and orders are numbered from 0 in the order in which they are told." */
    static void numbersFrom0() {
        WeatherTea tea = Tea.brewed("guest z at 1 likes 0 to 9 nerve 5; front z is cold force 4 at 0 for 5; saucer; front a is warm force 5 at 0 for 5;"
                + "guest a at 0 likes 0 to 9 nerve 5; front m is warm force 6 at 1 for 5;");
        due.is("forceOf(0)", tea.forceOf(0), 4);
        due.is("forceOf(1)", tea.forceOf(1), 5);
        due.is("forceOf(2)", tea.forceOf(2), 6);
        due.is("isSeated(0)", tea.isSeated(0), false);
        due.is("isSeated(1)", tea.isSeated(1), true);
        due.is("fronts()", tea.fronts(), 3);
        due.is("guests()", tea.guests(), 2);
    }

    // ---- what teach does

    /** Promise 4: "in the place of all that was told before; all begins anew, at the hour 0, and fronts and guests of this hour are there" */
    static void allBeginsAnew() {
        String many = fronts(10) + guests(9) + "guest s at 0 likes 0 to 0 nerve 0; lemon; saucer when hour=4;";
        String few = "front x is cold force 9 at 0 for 1; front y is warm force 9 at 1 for 1; guest u at 0 likes 9 to 9 nerve 0;"
                + "guest v at 1 likes 0 to 9 nerve 0; steep x when hour=30;";
        WeatherTea tea = Tea.brewed(many);
        tea.steep(0);
        tea.steep(1);
        tea.serve(0);
        tea.passHours(5);
        tea.heat(1);
        due.is("all was used", tea.storms() > 0 && tea.stormed() > 0 && tea.served() > 0 && tea.strength() > 0 && tea.charge() > 0
                && tea.coins() > 0 && tea.lemons() < 3 && tea.saucers() < 3, true);
        due.is("teach() of few", Tea.teach(tea, few), 0);
        due.is("all is as in a new pot", Tea.state(tea).equals(Tea.state(Tea.brewed(few))), true);
        due.is("a front of the hour 0", tea.isOver(0), true);
        due.is("a front of the hour 1", tea.isOver(1), false);
        due.is("a guest of the hour 0", tea.isSeated(0), true);
        due.is("a guest of the hour 1", tea.isSeated(1), false);
        due.refuses("isOver(2)", tea, IndexOutOfBoundsException.class, () -> tea.isOver(2) ? 1 : 0);
        due.refuses("isSeated(2)", tea, IndexOutOfBoundsException.class, () -> tea.isSeated(2) ? 1 : 0);
        tea.passHours(5);
        due.is("old orders are gone", tea.lemons() * 10 + tea.saucers(), 33);
        due.is("teach() of nothing", tea.teach(), 0);
        due.is("an empty plan is as a new pot", Tea.state(tea).equals(Tea.state(new WeatherTea())), true);
    }

    /** Promise 4: "If it has an error, all stays (but the tape is empty)." */
    static void withAnErrorAllStays() {
        String[] wrong = {"guest x at 0 likes 0 to 9 nerve 5; saucer; lemon", FRONT + "saucer;" + FRONT, "saucer; serve g0; guest g0 at 0 likes 0 to 0 nerve 0;",
            "saucer;".repeat(17), "saucer; front f is warm force 10 at 0 for 1;"};
        for (int i = 0; i < wrong.length; i++) {
            WeatherTea tea = Tea.brewed(FRONT + "guest g at 0 likes 0 to 9 nerve 20; guest h at 0 likes 0 to 0 nerve 1; lemon when hour=3; lemon;");
            tea.steep(0);
            tea.serve(0);
            tea.saucer();
            tea.passHours(2);
            tea.heat(33);
            String before = Reading.withoutError(tea);
            due.is("teach() of <" + wrong[i] + ">", Tea.teach(tea, wrong[i]), i + 1);
            due.is("all stays behind error " + (i + 1), Reading.withoutError(tea).equals(before), true);
            due.is("the tape is empty behind error " + (i + 1), Reading.isEmpty(tea), true);
            tea.passHours(2);
            due.is("the orders stay behind error " + (i + 1), tea.lemons() * 10 + tea.saucers(), 2);
        }
    }

    /** Promise 4: "Returns 0, or the error, 1 to 5." */
    static void teachTells0Or1To5() {
        WeatherTea tea = new WeatherTea();
        String[] texts = {"", ";", FRONT + FRONT, "steep f;", "lemon;".repeat(17), "guest g at 61 likes 0 to 0 nerve 0;", FRONT};
        int[] want = {0, 1, 2, 3, 4, 5, 0};
        int[] at = {-1, 0, FRONT.length() + 6, 6, 96, 11, -1};
        for (int i = 0; i < texts.length; i++) {
            due.is("teach() of <" + texts[i] + ">", Tea.teach(tea, texts[i]), want[i]);
            due.is("errorAt() of <" + texts[i] + ">", tea.errorAt(), at[i]);
        }
    }

    /** Promise 5: "Returns the position of the error of the latest teach(); -1 if it had none, or there was none." */
    static void errorAtIsOfTheLatestTeach() {
        WeatherTea tea = new WeatherTea();
        due.is("errorAt() without a teach()", tea.errorAt(), -1);
        Tea.write(tea, "lemon;@");
        due.is("errorAt() ahead of a teach()", tea.errorAt(), -1);
        tea.teach();
        due.is("errorAt() of an error", tea.errorAt(), 6);
        tea.passHours(3);
        Tea.write(tea, "@");
        due.is("errorAt() stays till the next teach()", tea.errorAt(), 6);
        tea.teach();
        due.is("errorAt() of another error, at 0", tea.errorAt(), 0);
        Tea.teach(tea, "lemon;");
        due.is("errorAt() of a right plan", tea.errorAt(), -1);
        Tea.teach(tea, "lemon");
        due.is("errorAt() at the end of the tape", tea.errorAt(), 5);
        tea.teach();
        due.is("errorAt() of an empty tape", tea.errorAt(), -1);
    }
}
