/** Promises 1 to 5: a new object, feed, trim, teach and errorAt, and all that the language says. */
public final class LanguageTest {

    private static final Due due = new Due("LanguageTest");
    private static final Reading reading = new Reading(due);

    private static final String FRONT = "front f is warm force 3 at 0 for 5;";
    private static final String GUEST = "guest g at 0 likes 0 to 9 nerve 5;";

    public static void main(String[] args) {
        newObject();
        tape();
        teachKeepsAll();
        teachBeginsAnew();
        teachAgainAndAgain();
        lines();
        tokens();
        tooLong();
        tests();
        depth();
        tokenLimit();
        told();
        notTold();
        tooMany();
        outOfRange();
        orderOfErrors();
        due.end();
    }

    private static void plan(String text) {
        reading.plan(text);
    }

    private static void errorAtMark(String marked, int want) {
        reading.errorAtMark(marked, want);
    }

    private static void newObject() {
        WeatherTea tea = new WeatherTea();
        due.is("fronts() at first", tea.fronts(), 0);
        due.is("guests() at first", tea.guests(), 0);
        due.is("hour() at first", tea.hour(), 0);
        due.is("warmth() at first", tea.warmth(), 20);
        due.is("strength() at first", tea.strength(), 0);
        due.is("charge() at first", tea.charge(), 0);
        due.is("lemons() at first", tea.lemons(), 3);
        due.is("saucers() at first", tea.saucers(), 3);
        due.is("coins() at first", tea.coins(), 0);
        due.is("storms() at first", tea.storms(), 0);
        due.is("errorAt() at first", tea.errorAt(), -1);
        due.is("the tape is empty at first", Reading.isEmpty(tea), true);
        tea.passHours(30);
        due.is("no order is followed at first", tea.lemons() + tea.saucers(), 6);
    }

    private static void tape() {
        WeatherTea tea = new WeatherTea();
        for (int i = 1; i <= 99; i++) {
            due.is("feed() " + i, tea.feed(0x20202020, 0x20202020, 0x20202020, 0x20202020, 0x20202020), 20L * i);
        }
        due.is("trim(1980)", tea.trim(1980), 1980);
        due.refuses("trim(1981)", tea, IllegalArgumentException.class, () -> tea.trim(1981));
        due.refuses("trim(-1)", tea, IllegalArgumentException.class, () -> tea.trim(-1));
        due.refuses("trim(MIN)", tea, IllegalArgumentException.class, () -> tea.trim(Integer.MIN_VALUE));
        due.refuses("trim(MAX)", tea, IllegalArgumentException.class, () -> tea.trim(Integer.MAX_VALUE));
        due.is("feed() up to 2000", tea.feed(0x20202020, 0x20202020, 0x20202020, 0x20202020, 0x2020203b), 2000);
        due.refuses("feed() beyond 2000", tea, IllegalStateException.class, () -> tea.feed(0, 0, 0, 0, 0));
        due.is("trim(1999)", tea.trim(1999), 1999);
        due.refuses("feed() beyond 2000 by 19", tea, IllegalStateException.class, () -> tea.feed(0, 0, 0, 0, 0));
        due.is("trim(1981) of 1999", tea.trim(1981), 1981);
        due.refuses("feed() beyond 2000 by 1", tea, IllegalStateException.class, () -> tea.feed(0, 0, 0, 0, 0));
        due.is("a refused feed leaves the tape", tea.trim(1981), 1981);
        due.is("teach() of blanks", tea.teach(), 0);
        WeatherTea order = new WeatherTea();
        order.feed(0x6c656d6f, 0x6e3b2020, 0x20202020, 0x2020203b, 0x6c656d6f);
        due.is("trim(0)", order.trim(0), 0);
        due.is("feed() behind trim(0)", order.feed(0x6c656d6f, 0x6e3b2020, 0x20202020, 0x2020203b, 0x6c656d6f), 20);
        due.is("teach() reads the highest byte first", order.teach(), 1);
        due.is("errorAt() with the highest byte first", order.errorAt(), 15);
        order.feed(0x6c656d6f, 0x6e3b2020, 0x20202020, 0x2020203b, 0x6c656d6f);
        due.is("trim(15)", order.trim(15), 15);
        due.is("teach() of what was kept", order.teach(), 0);
    }

    private static void teachKeepsAll() {
        WeatherTea tea = Tea.brewed(FRONT + "guest g at 0 likes 0 to 9 nerve 20; lemon;");
        tea.passHours(2);
        tea.steep(0);
        tea.serve(0);
        String before = Tea.state(tea).substring(Tea.state(tea).indexOf(' '));
        String wrong = "front a is warm force 1 at 1 for 1; guest a at 1 likes 1 to 2 nerve 3; saucer; steep b;";
        Tea.teach(tea, wrong);
        due.is("errorAt() of the failed plan", tea.errorAt(), wrong.indexOf("b;"));
        String after = Tea.state(tea).substring(Tea.state(tea).indexOf(' '));
        due.is("all stays behind a plan with an error", before.equals(after), true);
        tea.passHours(1);
        due.is("the old orders stay", tea.lemons(), 0);
        due.is("the new orders do not come", tea.saucers(), 3);
        due.is("teach() of nothing", tea.teach(), 0);
        due.is("errorAt() behind a right plan", tea.errorAt(), -1);
    }

    private static void teachBeginsAnew() {
        WeatherTea tea = Tea.brewed(FRONT + "front h is cold force 9 at 0 for 12;" + GUEST + "guest w at 1 likes 0 to 0 nerve 0; lemon; saucer when hour = 3;");
        tea.steep(0);
        tea.serve(0);
        tea.passHours(5);
        tea.steep(1);
        tea.heat(3);
        due.is("a run was had before", tea.storms() > 0 && tea.wasStormed(1) && tea.wasServed(0) && tea.coins() > 0
                && tea.strength() > 0 && tea.charge() > 0 && tea.lemons() < 3 && tea.saucers() < 3 && tea.isSteeped(0), true);
        String two = FRONT + GUEST + "guest h at 0 likes 0 to 9 nerve 5;";
        due.is("teach() anew", Tea.teach(tea, two), 0);
        String fresh = Tea.state(Tea.brewed(two));
        due.is("all begins anew", Tea.state(tea).equals(fresh), true);
        due.is("fronts of the hour 0 are there", tea.isOver(0), true);
        due.is("guests of the hour 0 are there", tea.isSeated(0), true);
        tea.passHours(4);
        due.is("old orders are gone", tea.lemons(), 3);
        tea.teach();
        due.is("an empty plan: no fronts", tea.fronts(), 0);
        due.is("an empty plan: no guests", tea.guests(), 0);
        due.is("an empty plan: the hour", tea.hour(), 0);
    }

    /** Nothing of an earlier plan, right or not, may be left in a later one. */
    private static void teachAgainAndAgain() {
        WeatherTea tea = new WeatherTea();
        String many = "lemon when 1" + Tea.times(150, "+1") + "=1;";
        for (int i = 0; i < 6; i++) {
            due.is("teach() with orders", Tea.teach(tea, "lemon; saucer;" + FRONT + GUEST), 0);
            due.is("teach() without orders", Tea.teach(tea, FRONT + GUEST), 0);
            due.is("teach() of an error behind orders", Tea.teach(tea, "lemon; saucer; steep f;"), 3);
            due.is("teach() of many steps", Tea.teach(tea, many), 0);
            due.is("fronts() of the plan without", tea.fronts(), 0);
            due.is("teach() of a front", Tea.teach(tea, "front f is warm force 3 at 0 for 5;"), 0);
            due.is("guests() of the plan without", tea.guests(), 0);
            tea.passHours(2);
            due.is("orders of the plan without", tea.lemons() + tea.saucers(), 6);
            due.is("teach() of one order", Tea.teach(tea, "lemon;"), 0);
            tea.passHours(1);
            due.is("orders of the plan with one", tea.lemons() * 10 + tea.saucers(), 23);
        }
    }

    private static void lines() {
        plan("");
        plan(" \n \n");
        plan(FRONT);
        plan("front x is cold force 2 at 60 for 12;" + GUEST);
        plan("lemon;saucer;\nlemon when hour>1;");
        errorAtMark("^;", 1);
        errorAtMark("lemon^", 1);
        errorAtMark("lemon  \n^", 1);
        errorAtMark("lemon;^;", 1);
        errorAtMark("^lemons;", 1);
        errorAtMark("^tea;", 1);
        errorAtMark("^3;", 1);
        errorAtMark("front ^warm is warm force 3 at 0 for 5;", 1);
        errorAtMark("front ^3 is warm force 3 at 0 for 5;", 1);
        errorAtMark("front f ^warm force 3 at 0 for 5;", 1);
        errorAtMark("front f is ^hot force 3 at 0 for 5;", 1);
        errorAtMark("front f is warm ^at 0 for 5;", 1);
        errorAtMark("front f is warm force ^of f at 0 for 5;", 1);
        errorAtMark("front f is warm force 3 ^for 5;", 1);
        errorAtMark("front f is warm force 3 at ^-1 for 5;", 1);
        errorAtMark("front f is warm force 3 at 0^;", 1);
        errorAtMark("front f is warm force 3 at 0 for^;", 1);
        errorAtMark("front f is warm force 3 at 0 for 5 ^when 1 = 1;", 1);
        errorAtMark("front f is warm force 3 at 0 for 5 ^front h is warm force 3 at 0 for 5;", 1);
        errorAtMark("front f is warm ^,force 3 at 0 for 5;", 1);
        errorAtMark("guest ^;", 1);
        errorAtMark("guest g ^is warm;", 1);
        errorAtMark("guest g at 0 ^to 3 likes 0 nerve 1;", 1);
        errorAtMark("guest g at 0 likes 3 ^nerve 1;", 1);
        errorAtMark("guest g at 0 likes 3 to 4^;", 1);
        errorAtMark("guest g at 0 likes 3 to 4 nerve ^g;", 1);
        errorAtMark("steep^;", 1);
        errorAtMark("steep ^3;", 1);
        errorAtMark("serve ^when 1 = 1;", 1);
        errorAtMark("lemon ^f;", 1);
        errorAtMark("saucer ^3;", 1);
        errorAtMark(FRONT + "steep f ^if 1 = 1;", 1);
    }

    private static void tokens() {
        plan("front abcdefghij is warm force 3 at 0 for 5;");
        plan("front a1b2 is warm force 000003 at 0 for 5;steep a1b2;");
        plan("front\nf\nis\nwarm\nforce\n3\nat\n0\nfor\n5\n;\n");
        plan("front f is warm force 3at 0for 5;");
        plan("lemon when 1<2and 3>=3or 4<=4;");
        plan("lemon when[1<2]and[hour>0];");
        plan("front isx is warm force 3 at 0 for 5;steep isx;");
        plan("front lemo is warm force 3 at 0 for 5;steep lemo;");
        plan("front lemonss is warm force 3 at 0 for 5;steep lemonss;");
        errorAtMark("^Lemon;", 1);
        errorAtMark("lemon^N;", 1);
        errorAtMark("^lemoN;", 1);
        errorAtMark("^lemo;", 1);
        errorAtMark("^lemonwhen 1 = 1;", 1);
        errorAtMark("lemon^\t;", 1);
        errorAtMark("lemon^\r\n;", 1);
        errorAtMark("lemon^\0;", 1);
        errorAtMark("lemon^\u00e9;", 1);
        errorAtMark("lemon^\u00ff;", 1);
        errorAtMark("lemon^\u00a0;", 1);
        errorAtMark("lemon^.;", 1);
        errorAtMark("lemon^:", 1);
        errorAtMark("lemon^_;", 1);
        errorAtMark("lemon when 1 ^! 2;", 1);
        errorAtMark("lemon when 1 <^> 2;", 1);
        errorAtMark("lemon when 1 =^< 2;", 1);
        errorAtMark("lemon when 1 =^= 2;", 1);
        errorAtMark("lemon when 1 <=^= 2;", 1);
        errorAtMark("lemon when 1 < ^= 2;", 1);
        errorAtMark("lemon when 1 >\n^= 2;", 1);
        errorAtMark("lemon when ^hour1 = 2;", 1);
        errorAtMark("lemon when 1 ^2 = 2;", 1);
        errorAtMark("lemon^@", 1);
        errorAtMark("lemon^`", 1);
        errorAtMark("lemon^{", 1);
        errorAtMark("lemon when 1 = 1^:", 1);
        errorAtMark("lemon when 1 = 1 ^,", 1);
        similarNames();
        cutOff();
    }

    /** Words of one and two signs are all told apart. */
    private static void similarNames() {
        String signs = "0123456789abcdefghijklmnopqrstuvwxyz";
        java.util.List<String> names = new java.util.ArrayList<>();
        for (int i = 10; i < 36; i++) {
            names.add(signs.substring(i, i + 1));
            for (int k = 0; k < 36; k++) {
                String name = signs.substring(i, i + 1) + signs.charAt(k);
                if (!java.util.List.of("is", "at", "to", "of", "or").contains(name)) {
                    names.add(name);
                }
            }
        }
        WeatherTea tea = new WeatherTea();
        for (int first = 0; first + 10 <= names.size(); first += 10) {
            StringBuilder fronts = new StringBuilder();
            for (int i = first; i < first + 10; i++) {
                fronts.append("front ").append(names.get(i)).append(" is warm force 3 at 0 for 5;");
            }
            for (int i = first % 7; i < names.size(); i += 7) {
                int want = i >= first && i < first + 10 ? 0 : 3;
                due.is("steep " + names.get(i) + " behind " + fronts, Tea.teach(tea, fronts + "steep " + names.get(i) + ";"), want);
            }
        }
        for (String other : new String[] {"a", "aa", "aaa", "aaaaaaaaaa", "a0", "a00", "a000000000", "z", "zzzzzzzzzz", "z999999999"}) {
            for (String name : new String[] {"a", "aa", "aaa", "aaaaaaaaaa", "a0", "a00", "a000000000", "z", "zzzzzzzzzz", "z999999999"}) {
                due.is(other + " and " + name, Tea.teach(tea, FRONT.replace(" f ", " " + other + " ") + "steep " + name + ";"),
                        other.equals(name) ? 0 : 3);
            }
        }
    }

    /** What was trimmed off is not read. */
    private static void cutOff() {
        String text = "lemon when 1 <= 22 and hour > 3;";
        for (int n = 0; n <= text.length(); n++) {
            WeatherTea tea = new WeatherTea();
            Tea.write(tea, text);
            tea.trim(n);
            boolean right = n == 0 || n == text.length();
            due.is("teach() of the first " + n + " bytes", tea.teach(), right ? 0 : 1);
            int wrongWord = n < 5 ? 0 : n > 6 && n < 10 ? 6 : n > 19 && n < 22 ? 19 : n > 23 && n < 27 ? 23 : n;
            due.is("errorAt() of the first " + n + " bytes", tea.errorAt(), right ? -1 : wrongWord);
        }
    }

    private static void tooLong() {
        errorAtMark("front ^abcdefghijk is warm force 3 at 0 for 5;", 1);
        errorAtMark("front ^a1234567890 is warm force 3 at 0 for 5;", 1);
        plan("front a123456789 is warm force 3 at 0 for 5; steep a123456789;");
        errorAtMark("front a123456789 is warm force 3 at 0 for 5; steep ^a12345678;", 3);
        errorAtMark("front a123456789 is warm force 3 at 0 for 5; steep ^a123456780;", 3);
        errorAtMark("front f is warm force ^0000003 at 0 for 5;", 1);
        errorAtMark("front f is warm force ^1234567 at 0 for 5;", 1);
        plan("lemon when 999999 > 999998;");
        errorAtMark("lemon when ^1000000 > 999998;", 1);
        errorAtMark("lemon when ^99999999999999999999999999999999999999 > 999998;", 1);
        errorAtMark("^" + Tea.times(1999, "a") + ";", 1);
    }

    private static void tests() {
        plan("lemon when hour + warmth - strength * charge / lemons < saucers;");
        plan(FRONT + GUEST + "steep f when over f and seated g or content g and not over f;");
        plan(FRONT + "lemon when force of f = 3 and storms >= 0;");
        plan("lemon when min(1, 2) <= max(3, (4 - -5));");
        plan("lemon when [[hour < 1]] or not [hour = 2] and not hour > 7;");
        plan("lemon when (hour) < (1 + (2));");
        errorAtMark("lemon when^;", 1);
        errorAtMark("lemon when hour^;", 1);
        errorAtMark("lemon when hour <^;", 1);
        errorAtMark("lemon when hour < 3 ^< 4;", 1);
        errorAtMark("lemon when hour < 3 ^when 4 < 3;", 1);
        errorAtMark("lemon when hour < 3 and^;", 1);
        errorAtMark("lemon when ^and hour < 3;", 1);
        errorAtMark("lemon when (hour ^< 3);", 1);
        errorAtMark("lemon when [hour ^] < 3;", 1);
        errorAtMark("lemon when [hour < 3 ^);", 1);
        errorAtMark("lemon when (hour ^] < 3;", 1);
        errorAtMark("lemon when [hour < 3] ^< 3;", 1);
        errorAtMark("lemon when [hour < 3] ^];", 1);
        errorAtMark("lemon when hour < 3 ^);", 1);
        errorAtMark("lemon when hour < ^[3];", 1);
        errorAtMark("lemon when hour < ^not 3;", 1);
        errorAtMark("lemon when hour < ^over 3;", 1);
        errorAtMark("lemon when hour * ^* 3;", 1);
        errorAtMark("lemon when hour < ^+ 3;", 1);
        errorAtMark("lemon when over ^3;", 1);
        errorAtMark("lemon when seated ^[;", 1);
        errorAtMark("lemon when content^;", 1);
        errorAtMark("lemon when force ^f < 3;", 1);
        errorAtMark("lemon when force of ^3 < 3;", 1);
        errorAtMark("lemon when ^f < 3;", 1);
        errorAtMark("lemon when ^coins < 3;", 1);
        errorAtMark("lemon when min ^3 < 3;", 1);
        errorAtMark("lemon when min(3^) < 3;", 1);
        errorAtMark("lemon when min(3, 4^, 5) < 3;", 1);
        errorAtMark("lemon when max(3^;4) < 3;", 1);
        errorAtMark("lemon when ^lemon < 3;", 1);
        errorAtMark("lemon when ^saucer < 3;", 1);
        errorAtMark("lemon when hour < 3 or ^", 1);
        errorAtMark("lemon when (1 ^, 2) < 3;", 1);
    }

    private static void depth() {
        plan("lemon when " + Tea.times(8, "(") + "1" + Tea.times(8, ")") + " = 1;");
        errorAtMark("lemon when " + Tea.times(8, "(") + "^(1" + Tea.times(9, ")") + " = 1;", 1);
        plan("lemon when " + Tea.times(8, "[") + "1 = 1" + Tea.times(8, "]") + ";");
        errorAtMark("lemon when " + Tea.times(8, "[") + "^[1 = 1" + Tea.times(9, "]") + ";", 1);
        plan("lemon when " + Tea.times(8, "-") + "1 = 1;");
        errorAtMark("lemon when " + Tea.times(8, "-") + "^-1 = 1;", 1);
        plan("lemon when " + Tea.times(8, "not ") + "1 = 1;");
        errorAtMark("lemon when " + Tea.times(8, "not ") + "^not 1 = 1;", 1);
        plan("lemon when not [not [-(-min(1, 2)) = 1]];");
        errorAtMark("lemon when not [not [-(-min(1, ^-2)) = 1]];", 1);
        errorAtMark("lemon when not [not [-(-min(^(1), 2)) = 1]];", 1);
        plan("lemon when not [[-(-min(1, -2)) = 1]];");
        errorAtMark("lemon when not [[-(-min(1, -^(2))) = 1]];", 1);
        errorAtMark("lemon when " + Tea.times(8, "[") + "min^(1, 2) = 1" + Tea.times(8, "]") + ";", 1);
        plan("lemon when " + Tea.times(7, "[") + "min(1, 2) = 1" + Tea.times(7, "]") + ";");
        errorAtMark("lemon when " + Tea.times(7, "[") + "min(1, ^-2) = 1" + Tea.times(7, "]") + ";", 1);
        errorAtMark("lemon when " + Tea.times(7, "[") + "max(^-1, 2) = 1" + Tea.times(7, "]") + ";", 1);
        plan("lemon when " + Tea.times(6, "[") + "max(-1, -2) = 1" + Tea.times(6, "]") + ";");
        // What is closed counts no more, and a difference does not count.
        plan("lemon when " + Tea.times(8, "(") + "1" + Tea.times(8, ")") + " = " + Tea.times(8, "(") + "1" + Tea.times(8, ")") + ";");
        plan("lemon when 1-1-1-1-1-1-1-1-1-1-1 = 1;");
        plan("lemon when not 1 = 1 and not 1 = 1 and not 1 = 1 and not 1 = 1 and not 1 = 1 and not 1 = 1 and not 1 = 1 and not 1 = 1 and not 1 = 1;");
        plan("lemon when " + Tea.times(8, "-") + "1 + " + Tea.times(8, "-") + "1 = 1;");
        // A not reaches over its single, the sum behind it too.
        errorAtMark("lemon when not -------1 = -------^-1;", 1);
        plan("lemon when not -------1 = -------1;");
        plan("lemon when not 1 = 1 and --------1 = 1;");
    }

    private static void tokenLimit() {
        // 3 tokens up to the first 1, 2 for each +1, 3 behind them: 398; each - in front is one more.
        plan("lemon when 1" + Tea.times(196, "+1") + "=1;");
        plan("lemon when --1" + Tea.times(196, "+1") + "=1;");
        errorAtMark("lemon when --1" + Tea.times(196, "+1") + "=1;^lemon;", 1);
        errorAtMark("lemon when ---1" + Tea.times(196, "+1") + "=1^;", 1);
        errorAtMark("lemon when --1" + Tea.times(197, "+1") + "=^1;", 1);
        errorAtMark("lemon when -1" + Tea.times(198, "+1") + "^=1;", 1);
        String four = "lemon;lemon;";
        plan("lemon;".repeat(16));
        errorAtMark(Tea.times(100, four) + "^lemon;", 1);
        errorAtMark(Tea.times(100, four) + " \n ^lemon;", 1);
        errorAtMark(Tea.times(100, four) + "^@", 1);
        reading.error(Tea.times(100, four) + "  \n", 4, 16 * 6);
        errorAtMark(Tea.times(99, four) + "lemon;lemon^", 1);
    }

    private static void told() {
        errorAtMark(FRONT + "front ^f is cold force 4 at 1 for 1;", 2);
        errorAtMark(GUEST + "guest ^g at 0 likes 0 to 9 nerve 5;", 2);
        plan(FRONT + "guest f at 0 likes 0 to 9 nerve 5; steep f; serve f;");
        plan("guest f at 0 likes 0 to 9 nerve 5;" + FRONT + "steep f when seated f and over f;");
    }

    private static void notTold() {
        errorAtMark(GUEST + "steep ^g;", 3);
        errorAtMark(FRONT + "serve ^f;", 3);
        errorAtMark("steep ^f;" + FRONT, 3);
        errorAtMark("serve ^g;" + GUEST, 3);
        errorAtMark(FRONT + "lemon when seated ^f;", 3);
        errorAtMark(FRONT + "lemon when content ^f;", 3);
        errorAtMark(GUEST + "lemon when over ^g;", 3);
        errorAtMark(GUEST + "lemon when force of ^g > 1;", 3);
        errorAtMark(FRONT + GUEST + "lemon when over f and seated g and content g and force of f > 1 and over ^h;", 3);
        errorAtMark("steep ^f when over g;", 3);
    }

    private static String tenFronts() {
        StringBuilder text = new StringBuilder();
        for (int i = 0; i < 10; i++) {
            text.append("front f").append(i).append(" is warm force 3 at 0 for 5;");
        }
        return text.toString();
    }

    private static String tenGuests() {
        StringBuilder text = new StringBuilder();
        for (int i = 0; i < 10; i++) {
            text.append("guest g").append(i).append(" at 0 likes 0 to 9 nerve 5;");
        }
        return text.toString();
    }

    private static void tooMany() {
        plan(tenFronts() + tenGuests() + "lemon;".repeat(16));
        errorAtMark(tenFronts() + "front ^g is warm force 3 at 0 for 5;", 4);
        errorAtMark(tenFronts() + "front ^f9 is warm force 3 at 0 for 5;", 2);
        errorAtMark(tenGuests() + "guest ^f at 0 likes 0 to 9 nerve 5;", 4);
        errorAtMark(tenGuests() + "guest ^g0 at 0 likes 0 to 9 nerve 5;", 2);
        errorAtMark("lemon;".repeat(16) + "^lemon;", 4);
        errorAtMark("saucer;".repeat(16) + "^saucer;", 4);
        errorAtMark("lemon;".repeat(16) + "^steep f;", 4);
        errorAtMark("lemon;".repeat(16) + "^serve g;", 4);
        errorAtMark("lemon when 1 = 1;".repeat(16) + FRONT + "^steep f;", 4);
        WeatherTea tea = Tea.brewed(tenFronts() + tenGuests());
        due.is("ten fronts", tea.fronts(), 10);
        due.is("ten guests", tea.guests(), 10);
        due.is("the last front is there", tea.isOver(9), true);
        due.is("the last guest is there", tea.isSeated(9), true);
    }

    private static void outOfRange() {
        errorAtMark("front f is warm force ^0 at 0 for 5;", 5);
        errorAtMark("front f is warm force ^10 at 0 for 5;", 5);
        plan("front f is warm force 1 at 0 for 5;front h is warm force 9 at 0 for 5;");
        errorAtMark("front f is warm force 3 at ^61 for 5;", 5);
        plan("front f is warm force 3 at 60 for 1;");
        errorAtMark("front f is warm force 3 at 0 for ^0;", 5);
        errorAtMark("front f is warm force 3 at 0 for ^13;", 5);
        plan("front f is warm force 3 at 0 for 12;");
        errorAtMark("guest g at ^61 likes 0 to 9 nerve 5;", 5);
        plan("guest g at 60 likes 0 to 30 nerve 20;");
        errorAtMark("guest g at 0 likes ^31 to 31 nerve 5;", 5);
        plan("guest g at 0 likes 30 to 30 nerve 5;");
        errorAtMark("guest g at 0 likes 0 to ^31 nerve 5;", 5);
        errorAtMark("guest g at 0 likes 8 to ^7 nerve 5;", 5);
        plan("guest g at 0 likes 8 to 8 nerve 0;");
        errorAtMark("guest g at 0 likes 0 to 9 nerve ^21;", 5);
        errorAtMark("guest g at 0 likes 0 to 9 nerve ^999999;", 5);
        plan("lemon when 999999 = 0;");
    }

    private static void orderOfErrors() {
        // Error 1 is told ahead of all others, wherever it stands.
        errorAtMark("front f is warm force 99 at 99 for 99; steep g; lemon^", 1);
        errorAtMark("steep f; lemon when ^;", 1);
        // The others from left to right.
        errorAtMark("front f is warm force ^99 at 99 for 99; steep g;", 5);
        errorAtMark("front f is warm force 9 at ^99 for 99; steep g;", 5);
        errorAtMark("steep ^g; front f is warm force 99 at 0 for 1;", 3);
        errorAtMark(FRONT + "front ^f is warm force 99 at 0 for 1;", 2);
        errorAtMark("guest g at ^99 likes 31 to 3 nerve 99;", 5);
        errorAtMark("guest g at 0 likes ^31 to 3 nerve 99;", 5);
        errorAtMark("guest g at 0 likes 9 to ^3 nerve 99;", 5);
        errorAtMark("lemon;".repeat(15) + "steep ^f; lemon;", 3);
        errorAtMark(tenFronts() + "front ^x is warm force 0 at 0 for 1;", 4);
        errorAtMark("lemon when over ^f or seated g;", 3);
    }
}
