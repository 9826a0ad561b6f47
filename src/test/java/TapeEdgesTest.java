/** The edges of the tape and of its tokens, promises 1 to 5. A test's remark tells the promise and the sentence. */
public final class TapeEdgesTest {

    private static final Due due = new Due("TapeEdgesTest");
    private static final Reading reading = new Reading(due);
    private static final int BLANKS = 0x20202020;

    public static void main(String[] args) {
        due.runAll(TapeEdgesTest.class);
    }

    private static int feedBlanks(WeatherTea tea) {
        return tea.feed(BLANKS, BLANKS, BLANKS, BLANKS, BLANKS);
    }

    /** A tape of so many blanks. */
    private static WeatherTea blanks(int bytes) {
        WeatherTea tea = new WeatherTea();
        for (int at = 0; at < bytes; at += 20) {
            feedBlanks(tea);
        }
        tea.trim(bytes);
        return tea;
    }

    private static void refusesFeed(WeatherTea tea, int bytes) {
        due.refuses("feed() behind " + bytes, tea, IllegalStateException.class, () -> tea.feed(0, 0, 0, 0, 0));
        due.refuses("the tape behind a refused feed()", tea, IllegalArgumentException.class, () -> tea.trim(bytes + 1));
        due.is("the tape behind a refused feed()", tea.trim(bytes), bytes);
    }

    private static void refusesTrim(WeatherTea tea, int n, int bytes) {
        due.refuses("trim(" + n + ") of " + bytes, tea, IllegalArgumentException.class, () -> tea.trim(n));
        due.is("the tape behind a refused trim(" + n + ")", tea.trim(bytes), bytes);
    }

    private static boolean isLetter(int sign) {
        return sign >= 'a' && sign <= 'z';
    }

    private static boolean isDigit(int sign) {
        return sign >= '0' && sign <= '9';
    }

    private static boolean isBlank(int sign) {
        return sign == 32 || sign == 10;
    }

    // ---- a new object

    /** Promise 1: "Creates a pot without fronts, guests and orders, at the hour 0." */
    static void aNewPotHasNothing() {
        WeatherTea tea = new WeatherTea();
        due.is("fronts()", tea.fronts(), 0);
        due.is("guests()", tea.guests(), 0);
        due.is("hour()", tea.hour(), 0);
        due.refuses("isOver(0)", tea, IndexOutOfBoundsException.class, () -> tea.isOver(0) ? 1 : 0);
        due.refuses("isSeated(0)", tea, IndexOutOfBoundsException.class, () -> tea.isSeated(0) ? 1 : 0);
        due.is("passHours(30)", tea.passHours(30), 0);
        due.is("no order took a lemon or a saucer", tea.lemons() * 10 + tea.saucers(), 33);
        due.is("no order was there to serve", tea.coins(), 0);
        due.is("the warmth is 20 and stays", tea.warmth(), 20);
    }

    /** Promise 1: "at first empty, which feed and trim fill" */
    static void aNewTapeIsEmpty() {
        WeatherTea tea = new WeatherTea();
        refusesTrim(tea, 1, 0);
        due.is("trim(0)", tea.trim(0), 0);
        due.is("the first feed()", feedBlanks(tea), 20);
        due.is("teach() of an empty tape", new WeatherTea().teach(), 0);
    }

    // ---- feed

    /**
     * Promise 2: "Appends twenty bytes to the tape: the four bytes of each number, the highest one first."
     * Promise 2: "- `a`: bytes 1 to 4 - `b`: bytes 5 to 8 - `c`: bytes 9 to 12 - `d`: bytes 13 to 16 - `e`: bytes 17 to 20"
     */
    static void eachByteHasItsPlace() {
        for (int place = 0; place < 20; place++) {
            for (int sign : new int[] {0, ';', 127, 128, 255}) {
                int[] numbers = {BLANKS, BLANKS, BLANKS, BLANKS, BLANKS};
                int shift = 24 - place % 4 * 8;
                numbers[place / 4] = BLANKS & ~(255 << shift) | sign << shift;
                WeatherTea tea = new WeatherTea();
                due.is("feed()", tea.feed(numbers[0], numbers[1], numbers[2], numbers[3], numbers[4]), 20);
                due.is("teach() with " + sign + " at " + place, tea.teach(), 1);
                due.is("errorAt() with " + sign + " at " + place, tea.errorAt(), place);
            }
        }
    }

    /** Promise 2: "Appends twenty bytes to the tape" */
    static void feedsStandOneBehindTheOther() {
        // "lemon;saucer;lemon;s" and "aucer;lemon;saucer; "
        WeatherTea tea = new WeatherTea();
        due.is("feed() 1", tea.feed(0x6c656d6f, 0x6e3b7361, 0x75636572, 0x3b6c656d, 0x6f6e3b73), 20);
        due.is("feed() 2", tea.feed(0x61756365, 0x723b6c65, 0x6d6f6e3b, 0x73617563, 0x65723b20), 40);
        due.is("teach()", tea.teach(), 0);
        tea.passHours(1);
        due.is("lemons()", tea.lemons(), 0);
        due.is("saucers()", tea.saucers(), 0);
    }

    /** Promise 2: "Returns the number of bytes of the tape." */
    static void feedTellsTheBytes() {
        WeatherTea tea = new WeatherTea();
        for (int i = 1; i <= 100; i++) {
            due.is("feed() " + i, feedBlanks(tea), 20L * i);
        }
        tea.trim(7);
        due.is("feed() behind trim(7)", feedBlanks(tea), 27);
        tea.trim(0);
        due.is("feed() behind trim(0)", feedBlanks(tea), 20);
        tea.teach();
        due.is("feed() behind teach()", feedBlanks(tea), 20);
    }

    /** Promise 2: "Throws `IllegalStateException` if there would be more than 2000" */
    static void aTapeIsNotFedBeyond2000() {
        due.is("feed() behind 1980", feedBlanks(blanks(1980)), 2000);
        due.is("feed() behind 1979", feedBlanks(blanks(1979)), 1999);
        refusesFeed(blanks(1981), 1981);
        refusesFeed(blanks(1999), 1999);
        refusesFeed(blanks(2000), 2000);
        WeatherTea tea = blanks(2000);
        refusesFeed(tea, 2000);
        tea.trim(1980);
        due.is("feed() behind trim(1980)", feedBlanks(tea), 2000);
        tea.teach();
        due.is("feed() behind teach()", feedBlanks(tea), 20);
    }

    // ---- trim

    /** Promise 3: "Shortens the tape to its first bytes. - `n`: how many are kept" */
    static void trimKeepsTheFirstBytes() {
        String text = "lemon;saucer;lemon;saucer;";
        int[] lengths = {0, 6, 13, 19, 26};
        int[] left = {33, 23, 22, 12, 11};
        for (int i = 0; i < lengths.length; i++) {
            WeatherTea tea = new WeatherTea();
            Tea.write(tea, text);
            due.is("trim(" + lengths[i] + ")", tea.trim(lengths[i]), lengths[i]);
            due.is("teach() of " + lengths[i], tea.teach(), 0);
            tea.passHours(1);
            due.is("lemons and saucers of " + lengths[i], tea.lemons() * 10 + tea.saucers(), left[i]);
        }
        WeatherTea one = new WeatherTea();
        Tea.write(one, text);
        one.trim(5);
        due.is("teach() of one byte less", one.teach(), 1);
        due.is("errorAt() of one byte less", one.errorAt(), 5);
    }

    /** Promise 3: "Shortens the tape to its first bytes." */
    static void whatWasTrimmedOffDoesNotComeBack() {
        WeatherTea tea = new WeatherTea();
        Tea.write(tea, "lemon;saucer;saucer;");
        tea.trim(6);
        Tea.write(tea, "lemon;");
        due.is("teach()", tea.teach(), 0);
        tea.passHours(1);
        due.is("lemons() and saucers()", tea.lemons() * 10 + tea.saucers(), 13);
    }

    /** Promise 3: "Shortens the tape to its first bytes." */
    static void whatWasTrimmedOffIsNotRead() {
        String text = "lemon when 1 <= 22 and 33 >= 3;";
        for (int n = 0; n < text.length(); n++) {
            WeatherTea tea = new WeatherTea();
            Tea.write(tea, text);
            tea.trim(n);
            due.is("teach() of the first " + n + " bytes", tea.teach(), n == 0 ? 0 : 1);
            boolean inAWord = n > 0 && n < 5 || n > 6 && n < 10 || n > 19 && n < 22;
            int at = n == 0 ? -1 : inAWord ? n < 5 ? 0 : n < 10 ? 6 : 19 : n;
            due.is("errorAt() of the first " + n + " bytes", tea.errorAt(), at);
        }
    }

    /** Promise 3: "Throws `IllegalArgumentException` if n is not 0 to the number of bytes of the tape" */
    static void trimTakes0ToTheBytes() {
        for (int bytes : new int[] {0, 1, 20, 1999, 2000}) {
            WeatherTea tea = blanks(bytes);
            for (int n : new int[] {-1, bytes + 1, bytes + 20, 2001, Integer.MIN_VALUE, Integer.MAX_VALUE}) {
                refusesTrim(tea, n, bytes);
            }
            due.is("trim(" + bytes + ")", tea.trim(bytes), bytes);
            due.is("trim(0) of " + bytes, tea.trim(0), 0);
            refusesTrim(tea, 1, 0);
        }
        WeatherTea tea = blanks(20);
        due.is("trim(19)", tea.trim(19), 19);
        refusesTrim(tea, 20, 19);
    }

    /** Promise 3: "Returns n." */
    static void trimTellsN() {
        WeatherTea tea = blanks(2000);
        for (int n : new int[] {2000, 1999, 1000, 999, 20, 1, 1, 0, 0}) {
            due.is("trim(" + n + ")", tea.trim(n), n);
        }
    }

    // ---- the tape of teach

    /**
     * Promise 4: "teach reads it as a plan, and it is empty behind it."
     * Promise 4: "Reads the tape as a plan"
     */
    static void theTapeIsEmptyBehindTeach() {
        for (String text : new String[] {"", "  \n", "lemon;", "lemon", "steep f;", "@", "lemon;".repeat(17)}) {
            WeatherTea tea = new WeatherTea();
            Tea.teach(tea, text);
            refusesTrim(tea, 1, 0);
            due.is("feed() behind teach() of <" + text + ">", feedBlanks(tea), 20);
            due.is("teach() of what was fed behind <" + text + ">", tea.teach(), 0);
        }
    }

    /** Promise 4: "The tape is a row of at most 2000 bytes" */
    static void aPlanOf2000BytesIsRead() {
        WeatherTea tea = new WeatherTea();
        due.is("teach() of 2000 bytes", Tea.teach(tea, " ".repeat(1993) + "saucer;"), 0);
        tea.passHours(1);
        due.is("saucers()", tea.saucers(), 2);
        reading.plan("\n".repeat(2000));
        reading.plan("lemon;" + " ".repeat(1994));
        reading.errorAtMark(" ".repeat(1999) + "^,", 1);
        reading.errorAtMark(" ".repeat(1995) + "lemon^", 1);
        reading.errorAtMark("lemon" + " ".repeat(1995) + "^", 1);
        reading.errorAtMark(" ".repeat(1994) + "lemon^", 1);
        reading.errorAtMark("^" + "a".repeat(2000), 1);
        reading.errorAtMark("^" + "9".repeat(2000), 1);
        reading.errorAtMark("^" + "\u00ff".repeat(2000), 1);
    }

    /** Promise 5: "Positions of the tape are counted from 0, in bytes." */
    static void positionsAreBytesFrom0() {
        reading.errorAtMark("^,", 1);
        reading.errorAtMark(" ^,", 1);
        reading.errorAtMark("\n\n \n^,", 1);
        reading.errorAtMark("lemon;\nlemon;\n^\u00e9\u00e9", 1);
        reading.errorAtMark("lemon;\nlemon;\n^,\u00e9", 1);
    }

    // ---- blanks and line ends

    /** Promise 4: "Blanks (32) and line ends (10) can stand between tokens, at the beginning and at the end" */
    static void blanksStandBetweenTokens() {
        reading.plan(" ");
        reading.plan("\n");
        reading.plan(" \n lemon \n ; \n ");
        reading.plan("\nfront\nf\nis\nwarm\nforce\n3\nat\n0\nfor\n5\n;\n");
        reading.plan("lemon  when  -  (  1  )  <=\n2 ;");
        for (int sign = 0; sign < 256; sign++) {
            String text = "lemon" + (char) sign + ";";
            if (isBlank(sign)) {
                reading.plan(text);
            } else if (isLetter(sign) || isDigit(sign)) {
                reading.error(text, 1, 0);
            } else {
                reading.error(text, 1, sign == ';' ? 6 : 5);
            }
        }
    }

    /** Promise 4: "Blanks (32) and line ends (10) can stand between tokens, at the beginning and at the end" */
    static void blanksStandAtBothEnds() {
        for (int sign = 0; sign < 256; sign++) {
            String ahead = (char) sign + "lemon;";
            String behind = "lemon;" + (char) sign;
            if (isBlank(sign)) {
                reading.plan(ahead);
                reading.plan(behind);
            } else {
                reading.error(ahead, 1, 0);
                reading.error(behind, 1, 6);
            }
        }
    }

    /** Promise 4: "have to stand between two tokens that would otherwise be read as one" */
    static void tokensThatWouldBeReadAsOne() {
        reading.errorAtMark("^lemonwhen 1=1;", 1);
        reading.errorAtMark("lemon ^when1=1;", 1);
        reading.errorAtMark("lemon when ^hour1=1;", 1);
        reading.errorAtMark("lemon when ^not1=1;", 1);
        reading.errorAtMark("^frontf is warm force 3 at 0 for 5;", 1);
        reading.errorAtMark("front f is warm force 3 at 0^for5;", 1);
        reading.plan("lemon when 11=11;");
        reading.errorAtMark("lemon when 1 ^1=11;", 1);
        reading.plan("lemon when 1<=1;");
        reading.errorAtMark("lemon when 1< ^=1;", 1);
        reading.errorAtMark("lemon when 1>\n^=1;", 1);
    }

    /** Promise 4: "have to stand between two tokens that would otherwise be read as one" */
    static void otherTokensNeedNoBlank() {
        reading.plan("front f is warm force 3at 0for 5;lemon;guest g at 0likes 1to 2nerve 3;");
        reading.plan("lemon when 1<2and 3>=3or 4<=4and[5=5]or not[6=6];");
        reading.plan("lemon when(1)=max(1,2)*-3;saucer when-1<hour/2-min(3,4);");
    }

    // ---- tokens

    /** Promise 4: "The longest possible token is always read." */
    static void theLongestTokenIsRead() {
        reading.plan("lemon when lemons=3;");
        reading.plan("saucer when saucers=3;");
        reading.errorAtMark("^lemons;", 1);
        reading.errorAtMark("^saucers;", 1);
        reading.plan("lemon when 1<=2 and 2>=1;");
        reading.plan("lemon when 1<-2 and 2>-1 and 3=-3 and 1<=-2 and 2>=-1;");
        reading.errorAtMark("lemon when 1<=^=2;", 1);
        reading.errorAtMark("lemon when 1<^<=2;", 1);
        reading.errorAtMark("lemon when 1<^>2;", 1);
        reading.errorAtMark("lemon when 1=^<2;", 1);
        reading.errorAtMark("lemon when 1=^>2;", 1);
        reading.errorAtMark("lemon when 1=^=2;", 1);
        due.is("1<=1 is one token", Tea.holds("1<=1"), true);
        due.is("1>=1 is one token", Tea.holds("1>=1"), true);
        for (String name : new String[] {"frontal", "isx", "iso", "warmer", "fort", "forces", "order", "norm", "minx", "hours"}) {
            reading.plan("front " + name + " is warm force 3 at 0 for 5;steep " + name + ";");
        }
    }

    /** Promise 4: "A word: a letter a to z, followed by letters a to z and digits" */
    static void aWordBeginsWithALetter() {
        for (int sign = 0; sign < 256; sign++) {
            String text = "front " + (char) sign + " is warm force 3 at 0 for 5;";
            if (isLetter(sign)) {
                reading.plan(text);
            } else {
                reading.error(text, 1, isBlank(sign) ? 8 : 6);
            }
        }
    }

    /** Promise 4: "A word: a letter a to z, followed by letters a to z and digits" */
    static void aWordGoesOnWithLettersAndDigits() {
        for (int sign = 0; sign < 256; sign++) {
            String text = "front y" + (char) sign + " is warm force 3 at 0 for 5;";
            if (isLetter(sign) || isDigit(sign) || isBlank(sign)) {
                reading.plan(text);
            } else {
                reading.error(text, 1, 7);
            }
        }
    }

    /** Promise 4: "followed by letters a to z and digits, at most 10 bytes" */
    static void aWordHas10BytesAtMost() {
        String rest = " is warm force 3 at 0 for 5;";
        for (String name : new String[] {"a", "abcdefghij", "a123456789", "zzzzzzzzzz", "z999999999"}) {
            reading.plan("front " + name + rest + "steep " + name + ";");
        }
        for (String name : new String[] {"abcdefghijk", "a1234567890", "zzzzzzzzzzz", "a12345678901234567890123456789"}) {
            reading.errorAtMark("front ^" + name + rest, 1);
        }
        // The last of ten bytes tells names apart too.
        reading.errorAtMark("front abcdefghij" + rest + "steep ^abcdefghik;", 3);
        reading.errorAtMark("front abcdefghij" + rest + "steep ^abcdefghi;", 3);
        // A keyword of eleven bytes is none.
        reading.errorAtMark("^lemonlemonl;", 1);
    }

    /** Promise 4: "All other words are names." */
    static void namesAreToldApartByEachSign() {
        String[] names = {"a", "ab", "ba", "x9", "xa", "x0", "x00", "aaaaaaaaaa", "baaaaaaaaa", "aaaaaaaaa9"};
        StringBuilder fronts = new StringBuilder();
        for (String name : names) {
            fronts.append("front ").append(name).append(" is warm force 1 at 0 for 1;");
        }
        for (int i = 0; i < names.length; i++) {
            WeatherTea tea = Tea.brewed(fronts + "steep " + names[i] + ";");
            tea.passHours(1);
            for (int k = 0; k < names.length; k++) {
                due.is("steep " + names[i] + " steeps " + names[k], tea.isSteeped(k), i == k);
            }
        }
        for (String other : new String[] {"b", "aa", "x", "x1", "x000", "aaaaaaaaa", "aaaaaaaab", "aaaaaaaaab", "aaaaaaaaa0"}) {
            reading.error(fronts + "steep " + other + ";", 3, fronts.length() + 6);
        }
    }

    /** Promise 4: "A number: 1 to 6 digits." */
    static void aNumberHas1To6Digits() {
        reading.plan("lemon when 0=0;");
        reading.plan("lemon when 999999=000000;");
        reading.plan("front f is warm force 000009 at 000060 for 000012;");
        reading.errorAtMark("lemon when ^1000000=0;", 1);
        reading.errorAtMark("lemon when ^0000000=0;", 1);
        reading.errorAtMark("lemon when 0=^0000001;", 1);
        reading.errorAtMark("front f is warm force ^0000009 at 0 for 5;", 1);
        reading.errorAtMark("lemon when 0=^" + "1".repeat(1000) + ";", 1);
        due.is("999999 is read whole", Tea.holds("999999 / 1000 = 999 and 999999 - 999 * 1000 = 999"), true);
        due.is("000010 is ten", Tea.holds("000010 = 9 + 1"), true);
    }

    /** Promise 4: "Symbols: ( ) [ ] ; , + - * / < > = <= >=" */
    static void theSymbols() {
        reading.plan("lemon when [min((1), 2) + 3 - 4 * 5 / 6 < 7] and 1 > 2 or 1 = 2 and 1 <= 2 or 1 >= 2;");
        for (int sign = 0; sign < 256; sign++) {
            String text = "lemon when 1 " + (char) sign + " 1=1;";
            if ("+-*/<>=".indexOf(sign) < 0) {
                reading.error(text, 1, isBlank(sign) ? 15 : 13);
            } else if ("<>=".indexOf(sign) < 0) {
                reading.plan(text);
            } else {
                reading.error(text, 1, 16);
            }
        }
    }

    /**
     * Promise 4: "The keywords are: front is warm cold at for force guest likes to nerve steep lemon saucer serve when hour warmth"
     * Promise 4: "strength charge lemons saucers seated over storms content of not and or min max."
     * Promise 4: "All other words are names."
     */
    static void keywordsAreNoNames() {
        String[] keywords = ("front is warm cold at for force guest likes to nerve steep lemon saucer serve when hour warmth"
                + " strength charge lemons saucers seated over storms content of not and or min max").split(" ");
        due.is("so many keywords", keywords.length, 32);
        for (String keyword : keywords) {
            reading.errorAtMark("front ^" + keyword + " is warm force 3 at 0 for 5;", 1);
            reading.errorAtMark("guest ^" + keyword + " at 0 likes 1 to 2 nerve 3;", 1);
            reading.plan("front " + keyword + "0 is warm force 3 at 0 for 5;");
            reading.plan("guest x" + keyword + " at 0 likes 1 to 2 nerve 3;");
            String shorter = keyword.substring(0, keyword.length() - 1);
            if (!java.util.Arrays.asList(keywords).contains(shorter)) {
                reading.plan("front " + shorter + " is warm force 3 at 0 for 5;steep " + shorter + ";");
            }
        }
        for (String name : new String[] {"coins", "served", "stormed", "fronts", "guests", "plan", "line", "test", "sum", "digest"}) {
            reading.plan("guest " + name + " at 0 likes 1 to 2 nerve 3;serve " + name + ";");
        }
    }
}
