/** The edges of the pot, of sums and tests, and of an hour, promises 6 to 32. A remark tells the promise and the sentence. */
public final class PotEdgesTest {

    private static final Due due = new Due("PotEdgesTest");
    /** 2147483647 and -2147483648, reckoned without a wrap. */
    private static final String MOST = "(46340*46341+41707)";
    private static final String LEAST = "(-46340*46341-41708)";

    public static void main(String[] args) {
        due.runAll(PotEdgesTest.class);
    }

    private static void yes(String... tests) {
        for (String test : tests) {
            due.is(test, Tea.holds(test), true);
            due.is("not " + test, Tea.holds("not [" + test + "]"), false);
        }
    }

    private static void no(String... tests) {
        for (String test : tests) {
            due.is(test, Tea.holds(test), false);
            due.is("not " + test, Tea.holds("not [" + test + "]"), true);
        }
    }

    /** The warmth behind one hour that begins with so much of it. */
    private static int warmthBehind(int warmth, int warmForce, int coldForce) {
        WeatherTea tea = Tea.brewed(Tea.fronts("w", "warm", warmForce, 0, 1) + Tea.fronts("c", "cold", coldForce, 0, 1));
        tea.heat(warmth);
        tea.passHours(1);
        return tea.warmth();
    }

    /** The charge behind one hour that begins with so many lemons squeezed. */
    private static int chargeBehind(int lemons, int warmForce, int coldForce) {
        WeatherTea tea = Tea.brewed(Tea.fronts("w", "warm", warmForce, 0, 1) + Tea.fronts("c", "cold", coldForce, 0, 1));
        for (int i = 0; i < lemons; i++) {
            tea.lemon();
        }
        tea.passHours(1);
        return tea.charge();
    }

    private static void seated(WeatherTea tea, int guest, int from, int hours) {
        for (int hour = 0; hour < from + hours + 20; hour++) {
            boolean want = hour >= from && hour < from + hours;
            due.is("isSeated(" + guest + ") at " + hour, tea.isSeated(guest), want);
            due.is("seatedGuests() at " + hour, tea.seatedGuests(), want ? 1 : 0);
            tea.passHours(1);
        }
    }

    private static void over(WeatherTea tea, int front, int from, int hours) {
        for (int hour = 0; hour < from + hours + 20; hour++) {
            boolean want = hour >= from && hour < from + hours;
            due.is("isOver(" + front + ") at " + hour, tea.isOver(front), want);
            due.isDouble("meanForce() at " + hour, tea.meanForce(), want ? tea.forceOf(front) : 0);
            tea.passHours(1);
        }
    }

    // ---- sums

    /** Promise 4: "sums, differences and products of the language wrap around in 32 bits" */
    static void sumsWrapAround() {
        yes(MOST + ">0", LEAST + "<0", MOST + "+1=" + LEAST, "1+" + MOST + "<0", MOST + "+" + MOST + "=-2");
        yes(LEAST + "-1=" + MOST, LEAST + "+" + LEAST + "=0", "-2-" + MOST + "=" + MOST, "0-" + LEAST + "=" + LEAST);
        yes("-" + LEAST + "=" + LEAST, "-" + MOST + "=" + LEAST + "+1", LEAST + "+" + MOST + "=-1");
        yes("65536*65536=0", "65536*32768=" + LEAST, "46341*46341<0", "46340*46340>0", MOST + "*2=-2", MOST + "*" + MOST + "=1");
        yes(LEAST + "*-1=" + LEAST, LEAST + "*2=0", "999999*999999=-(999999*729+380696)", "-65536*32768=" + LEAST);
    }

    /** Promise 4: "/ is cut towards 0, gives 0 with 0 on the right side, and -2147483648 / -1 gives -2147483648" */
    static void quotients() {
        yes("1/2=0", "-1/2=0", "1/-2=0", "-1/-2=0", "3/2=1", "-3/2=-1", "3/-2=-1", "-3/-2=1", "4/2=2", "-4/2=-2", "9/10=0", "-9/10=0");
        yes("5/0=0", "-5/0=0", "0/0=0", "5/(2-2)=0", MOST + "/0=0", LEAST + "/0=0", "5/-0=0", "5/0+7=7", "5/0*7=0", "7/hour=0");
        yes(LEAST + "/-1=" + LEAST, LEAST + "/-1<0", LEAST + "/1=" + LEAST, MOST + "/-1=-" + MOST, LEAST + "/" + LEAST + "=1", "0/" + LEAST + "=0");
        yes(LEAST + "/2=-32768*32768", MOST + "/2=32768*32768-1");
    }

    /** Promise 4: "sum ( "<" | ">" | "=" | "<=" | ">=" ) sum" */
    static void comparisonsAtTheirEdges() {
        yes("1<2", "2>1", "2=2", "2<=2", "2>=2", "1<=2", "2>=1", "-1<0", "0>-1", "-2<-1");
        no("2<2", "2>2", "1=2", "2=1", "3<=2", "2>=3", "2<1", "1>2");
        yes(LEAST + "<" + MOST, MOST + ">" + LEAST, LEAST + "<=" + MOST, MOST + ">=" + LEAST, LEAST + "<0", "0>" + LEAST);
        no(LEAST + ">" + MOST, MOST + "<" + LEAST, LEAST + "=" + MOST, LEAST + ">=" + MOST, MOST + "<=" + LEAST);
        yes("min(1,2)=1", "min(2,1)=1", "max(1,2)=2", "max(2,1)=2", "min(3,3)=3", "max(3,3)=3", "min(-1,0)=-1", "max(-1,0)=0");
        yes("min(" + LEAST + "," + MOST + ")=" + LEAST, "max(" + LEAST + "," + MOST + ")=" + MOST);
    }

    /** Promise 4: "sum = product { ( "+" | "-" ) product }" */
    static void signsGoFromLeftToRight() {
        yes("10-3-2=5", "10-(3-2)=9", "10-3+2=9", "10+3-2-1=10", "100/10/5=2", "100/(10/5)=50", "7/2*2=6", "2*7/2=7", "1+2*3=7", "2*3+1=7", "(1+2)*3=9");
        yes("-1+2=1", "-(1+2)=-3", "-2*3=-6", "-7/2=-3", "--5=5", "---5=-5", "2--3=5", "2*-3=-6", "-2*-3=6");
    }

    /** Promise 4: "and binds more than or, not more than and" */
    static void whatBindsMore() {
        yes("1=1 or 1=1 and 1=2", "1=2 and 1=1 or 1=1", "1=2 and 1=2 or 1=1", "1=1 or 1=2 and 1=2");
        no("[1=1 or 1=1] and 1=2", "1=2 and [1=1 or 1=1]", "1=2 or 1=1 and 1=2", "1=1 and 1=2 or 1=2");
        yes("not 1=2 or 1=1", "not 1=2 and 1=1", "not 1=1 or 1=1", "not not 1=1");
        no("not [1=2 or 1=1]", "not 1=1 and 1=2", "not 1=2 and 1=2", "not 1=1 and 1=1", "not not not 1=1");
        yes("not [1=1 and 1=2]", "1=1 and not 1=2", "1=2 or not 1=2");
    }

    /** Promise 4: "Both sides of and and or are reckoned" */
    static void bothSidesAreReckoned() {
        yes("1=1 or 1/0=1", "1/0=1 or 1=1", "1/0=0 and 1=1");
        no("1=2 and 1/0=0", "1/0=1 and 1=1");
        for (int left = 0; left < 2; left++) {
            for (int right = 0; right < 2; right++) {
                due.is(left + " and " + right, Tea.holds("1=" + left + " and 1=" + right), left + right == 2);
                due.is(left + " or " + right, Tea.holds("1=" + left + " or 1=" + right), left + right > 0);
            }
        }
    }

    /** Promise 4: "In tests and sums hour is the hour, warmth, strength, charge, lemons and saucers what there is, storms how many there were" */
    static void wordsOfTests() {
        yes("hour=0", "warmth=20", "strength=0", "charge=0", "lemons=3", "saucers=3", "storms=0");
        WeatherTea tea = Tea.brewed("lemon when hour=0; lemon when charge=6 and lemons=2; saucer when storms=0 and charge=12 and saucers=3;"
                + "lemon when hour=1 and charge=0 and storms=0; saucer when charge=7 and hour=0; lemon when lemons=1 and saucers=1 and charge=2;");
        tea.passHours(1);
        due.is("all words at the hour 0", tea.lemons() * 100 + tea.saucers() * 10 + tea.charge(), 18);
        WeatherTea most = Tea.strong(30, "saucer when strength=30 and warmth=40 and hour=0;");
        most.heat(40);
        most.passHours(1);
        due.is("strength 30 and warmth 40", most.saucers(), 2);
        WeatherTea least = Tea.brewed("saucer when warmth=0 and strength=0 and lemons=0 and charge=18;");
        least.lemon();
        least.lemon();
        least.lemon();
        least.heat(0);
        least.passHours(1);
        due.is("warmth 0 and no lemons", least.saucers(), 2);
        WeatherTea storms = Tea.brewed("saucer when storms=1 and hour=1;");
        storms.lemon();
        storms.lemon();
        storms.passHours(1);
        due.is("storms in the first hour", storms.saucers(), 3);
        storms.passHours(1);
        due.is("storms an hour later", storms.saucers(), 2);
    }

    /** Promise 4: "force that of a front, over the pot or not" */
    static void forceIsTheFrontsAlways() {
        WeatherTea tea = Tea.brewed("front a is warm force 9 at 1 for 1; front b is cold force 1 at 0 for 12;"
                + "saucer when hour=0 and force of a=9 and force of b=1; steep a; saucer when hour=1 and force of a=9; saucer when hour=2 and force of a=9 and not over a;");
        for (int hour = 1; hour <= 3; hour++) {
            tea.passHours(1);
            due.is("saucers() behind " + hour, tea.saucers(), 3 - hour);
        }
        due.is("isSteeped(0)", tea.isSteeped(0), true);
    }

    /** Promise 4: "over holds for a front over the pot, seated and content as told" */
    static void overSeatedAndContent() {
        String plan = "front a is warm force 2 at 0 for 1; front b is warm force 2 at 1 for 1; guest g at 0 likes 2 to 3 nerve 0;"
                + "guest h at 1 likes 0 to 30 nerve 0; guest i at 0 likes 0 to 1 nerve 0;";
        due.is("over a", Tea.holds(plan, "over a"), true);
        due.is("over b", Tea.holds(plan, "over b"), false);
        due.is("over a behind steep a", Tea.holds(plan + "steep a;", "over a"), false);
        due.is("seated g", Tea.holds(plan, "seated g"), true);
        due.is("seated h", Tea.holds(plan, "seated h"), false);
        due.is("content g", Tea.holds(plan, "content g"), false);
        due.is("content i", Tea.holds(plan, "content i"), true);
        due.is("content h", Tea.holds(plan, "content h"), false);
        due.is("content g behind steep a", Tea.holds(plan + "steep a;", "content g"), true);
        due.is("content i behind steep a", Tea.holds(plan + "steep a;", "content i"), false);
        due.is("seated g behind serve g", Tea.holds(plan + "steep a; serve g;", "seated g"), false);
        due.is("content g behind serve g", Tea.holds(plan + "steep a; serve g;", "content g"), false);
    }

    // ---- the pot

    /** Promises 9 to 14: "The tea has a warmth, 0 to 40 (20 at first), a strength, 0 to 30 (0 at first), and a charge, 0 to 30 (0 at first)." */
    static void theTeaAtFirst() {
        for (WeatherTea tea : new WeatherTea[] {new WeatherTea(), Tea.brewed(""), Tea.brewed("lemon; saucer;")}) {
            due.is("warmth()", tea.warmth(), 20);
            due.is("strength()", tea.strength(), 0);
            due.is("charge()", tea.charge(), 0);
        }
    }

    /** Promises 12 to 14: "There are 3 lemons and 3 saucers, and no coins, at first." */
    static void theKitchenAtFirst() {
        for (WeatherTea tea : new WeatherTea[] {new WeatherTea(), Tea.brewed(""), Tea.brewed("lemon; saucer;")}) {
            due.is("lemons()", tea.lemons(), 3);
            due.is("saucers()", tea.saucers(), 3);
            due.is("coins()", tea.coins(), 0);
        }
    }

    /** Promise 21: "A front comes in its hour, and is over the pot for as many hours, if it is not steeped before." */
    static void aFrontComesAndGoes() {
        for (int from : new int[] {0, 1, 2, 59, 60}) {
            for (int hours : new int[] {1, 2, 11, 12}) {
                over(Tea.brewed("front a is cold force 1 at " + from + " for " + hours + ";"), 0, from, hours);
            }
        }
    }

    /** Promise 22: "the front is over the pot no more" */
    static void aSteepedFrontDoesNotComeBack() {
        WeatherTea tea = Tea.brewed("front a is warm force 9 at 1 for 12;");
        tea.passHours(1);
        tea.steep(0);
        for (int hour = 1; hour < 20; hour++) {
            due.is("isOver(0) at " + hour, tea.isOver(0), false);
            due.is("isSteeped(0) at " + hour, tea.isSteeped(0), true);
            due.is("warmth() at " + hour, tea.warmth(), 20);
            tea.passHours(1);
        }
    }

    /** Promise 23: "A guest comes in the hour that is told, and is seated till served, or stormed, or 8 hours went by." */
    static void aGuestComesAndGoes() {
        for (int from : new int[] {0, 1, 2, 59, 60}) {
            seated(Tea.brewed("guest g at " + from + " likes 0 to 30 nerve 0;"), 0, from, 8);
        }
    }

    /** Promise 23: "is seated till served, or stormed" */
    static void aServedOrStormedGuestDoesNotComeBack() {
        WeatherTea tea = Tea.brewed("guest g at 1 likes 0 to 30 nerve 0; guest h at 1 likes 0 to 30 nerve 0;");
        tea.passHours(1);
        tea.serve(0);
        due.is("isSeated(0) of a served one", tea.isSeated(0), false);
        due.is("isSeated(1) of another", tea.isSeated(1), true);
        tea.lemon();
        tea.lemon();
        tea.passHours(1);
        for (int hour = 2; hour < 20; hour++) {
            due.is("seatedGuests() at " + hour, tea.seatedGuests(), 0);
            due.is("isSeated(0) at " + hour, tea.isSeated(0), false);
            due.is("isSeated(1) at " + hour, tea.isSeated(1), false);
            due.is("who was served at " + hour, tea.wasServed(0) && !tea.wasServed(1), true);
            due.is("who was stormed at " + hour, tea.wasStormed(1) && !tea.wasStormed(0), true);
            tea.passHours(1);
        }
    }

    /** Promise 24: "if the strength is what this guest likes, from the one number to the other one" */
    static void contentWithTheStrength() {
        int[][] likes = {{0, 0}, {0, 30}, {30, 30}, {0, 5}, {5, 5}, {5, 7}, {29, 30}};
        for (int[] like : likes) {
            for (int strength : new int[] {0, 1, 4, 5, 6, 7, 8, 28, 29, 30}) {
                WeatherTea tea = Tea.strong(strength, "guest g at 0 likes " + like[0] + " to " + like[1] + " nerve 0;");
                due.is("strength()", tea.strength(), strength);
                due.is(strength + " for one who likes " + like[0] + " to " + like[1], tea.isContent(0), strength >= like[0] && strength <= like[1]);
            }
        }
    }

    /** Promise 24: "and the warmth is 15 or more" */
    static void contentWithTheWarmth() {
        WeatherTea tea = Tea.brewed("guest g at 0 likes 0 to 30 nerve 0;");
        for (int warmth = 0; warmth <= 40; warmth++) {
            tea.heat(warmth);
            due.is("isContent(0) at " + warmth, tea.isContent(0), warmth >= 15);
        }
    }

    /** Promise 24: "Content is a guest who is seated" */
    static void contentOnlyWhenSeated() {
        WeatherTea tea = Tea.brewed("guest g at 1 likes 0 to 30 nerve 0; guest h at 0 likes 0 to 30 nerve 0;");
        for (int hour = 0; hour < 12; hour++) {
            due.is("isContent(0) at " + hour, tea.isContent(0), hour >= 1 && hour < 9);
            due.is("isContent(1) at " + hour, tea.isContent(1), hour < 8);
            tea.passHours(1);
        }
        WeatherTea served = Tea.brewed("guest g at 0 likes 0 to 30 nerve 0;");
        served.serve(0);
        due.is("isContent(0) of a served one", served.isContent(0), false);
    }

    // ---- an hour: orders

    /** Promise 32: "Orders, in the order in which they are told, if the test holds as it comes to its turn (or there is none), and if it can be done." */
    static void ordersInTheirOrder() {
        String pot = "front f is warm force 5 at 0 for 2; guest g at 0 likes 5 to 9 nerve 0;";
        WeatherTea right = Tea.brewed(pot + "steep f; serve g;");
        right.passHours(1);
        due.is("steep, then serve", right.coins(), 5);
        WeatherTea turned = Tea.brewed(pot + "serve g; steep f;");
        turned.passHours(1);
        due.is("serve, then steep", turned.coins(), 0);
        due.is("serve was passed over, steep was not", turned.strength(), 5);
        turned.passHours(1);
        due.is("serve an hour later", turned.coins(), 5);
        WeatherTea turn = Tea.brewed("saucer when lemons=3; lemon when saucers=2; saucer when lemons=3; saucer when lemons=2; lemon when charge=6;");
        turn.passHours(1);
        due.is("tests in their turn", turn.lemons() * 10 + turn.saucers(), 21);
    }

    /** Promise 32: "and if it can be done" */
    static void ordersThatCannotBeDone() {
        WeatherTea all = Tea.brewed("lemon; lemon; lemon; lemon; saucer; saucer; saucer; saucer; saucer when saucers=0;");
        all.passHours(1);
        due.is("the fourth lemon and saucer", all.lemons() * 10 + all.saucers(), 0);
        due.is("charge()", all.charge(), 3);
        all.passHours(1);
        due.is("charge() later", all.charge(), 3);
        WeatherTea tea = Tea.brewed("front f is warm force 5 at 1 for 1; front h is cold force 1 at 0 for 12; guest g at 0 likes 1 to 4 nerve 0;"
                + "steep f; steep h when hour=2; steep h; serve g when strength=1;");
        tea.passHours(1);
        due.is("a front that has not come", tea.isSteeped(0), false);
        due.is("the strength, 1 and 3 less", tea.strength(), 0);
        due.is("the guest is served for 1", tea.coins(), 1);
        due.is("the front that was there is steeped", tea.isSteeped(1), true);
        tea.passHours(1);
        due.is("a front that came, steeped once", tea.strength(), 5);
        tea.passHours(1);
        due.is("a front that is steeped already", tea.strength(), 5);
        due.is("served once", tea.coins(), 1);
    }

    /**
     * Promise 32: "Steeping: the strength is as much more as the force of the front, at most 30"
     * Promise 32: "the strength is 3 less then, at least 0"
     */
    static void steepingAndServingByOrder() {
        for (int strength : new int[] {0, 1, 2, 3, 4, 20, 21, 22, 29, 30}) {
            WeatherTea steep = Tea.strong(strength, "front f is cold force 9 at 0 for 1; steep f;");
            steep.passHours(1);
            due.is("steep by order at " + strength, steep.strength(), Math.min(30, strength + 9));
            WeatherTea serve = Tea.strong(strength, "guest g at 0 likes 0 to 30 nerve 0; serve g;");
            serve.passHours(1);
            due.is("strength() behind serve by order at " + strength, serve.strength(), Math.max(0, strength - 3));
            due.is("coins() behind serve by order at " + strength, serve.coins(), strength);
        }
    }

    /**
     * Promise 32: "Lemon: the charge is 6 more, at most 30"
     * Promise 32: "Saucer: the charge is 5 less, at least 0"
     */
    static void lemonsAndSaucersByOrder() {
        for (int charge = 0; charge <= 18; charge++) {
            int held = Math.min(30, charge + 18);
            WeatherTea lemons = Tea.charged(charge, "lemon when hour=1; lemon when hour=1; lemon when hour=1; saucer when charge=" + held + " and hour=1;");
            lemons.passHours(1);
            due.is("three lemons by order at " + charge, lemons.saucers(), 2);
            due.is("charge() behind them, a saucer and a storm", lemons.charge(), held - 5 - (held - 5 >= 12 ? 12 : 0));
            WeatherTea saucers = Tea.charged(charge, "saucer when hour=1; saucer when hour=1; saucer when hour=1;");
            saucers.passHours(1);
            due.is("three saucers by order at " + charge, saucers.charge(), Math.max(0, charge - 15));
        }
    }

    /** Promise 32: "if the test holds" */
    static void anOrderWithoutATestIsAlwaysFollowed() {
        WeatherTea tea = Tea.brewed("lemon; lemon when 1=2;");
        for (int hour = 1; hour <= 4; hour++) {
            tea.passHours(1);
            due.is("lemons() behind " + hour, tea.lemons(), Math.max(0, 3 - hour));
        }
    }

    // ---- an hour: warmth and charge

    /** Promise 32: "The warmth is as much more as all warm fronts over the pot have force, and as much less as all cold ones have, both at once, held at 0 and 40" */
    static void theWarmthIsHeldAt0And40() {
        due.is("31 and 9", warmthBehind(31, 9, 0), 40);
        due.is("32 and 9", warmthBehind(32, 9, 0), 40);
        due.is("30 and 9", warmthBehind(30, 9, 0), 39);
        due.is("40 and 1", warmthBehind(40, 1, 0), 40);
        due.is("0 and 90", warmthBehind(0, 90, 0), 40);
        due.is("9 less 9", warmthBehind(9, 0, 9), 0);
        due.is("8 less 9", warmthBehind(8, 0, 9), 0);
        due.is("10 less 9", warmthBehind(10, 0, 9), 1);
        due.is("0 less 1", warmthBehind(0, 0, 1), 0);
        due.is("40 less 90", warmthBehind(40, 0, 90), 0);
        due.is("40, 9 more and 9 less at once", warmthBehind(40, 9, 9), 40);
        due.is("40, 45 more and 44 less at once", warmthBehind(40, 45, 44), 40);
        due.is("40, 44 more and 45 less at once", warmthBehind(40, 44, 45), 39);
        due.is("0, 9 more and 9 less at once", warmthBehind(0, 9, 9), 0);
        due.is("0, 44 more and 45 less at once", warmthBehind(0, 44, 45), 0);
        due.is("0, 45 more and 44 less at once", warmthBehind(0, 45, 44), 1);
    }

    /** Promise 32: "if there is none, it is 1 nearer to 20" */
    static void withoutAFrontTheWarmthIsNearerTo20() {
        int[] from = {0, 1, 18, 19, 20, 21, 22, 39, 40};
        int[] to = {1, 2, 19, 20, 20, 20, 21, 38, 39};
        for (int i = 0; i < from.length; i++) {
            due.is("from " + from[i], warmthBehind(from[i], 0, 0), to[i]);
        }
        due.is("even fronts are not none", warmthBehind(30, 3, 3), 30);
        due.is("even fronts are not none, below 20", warmthBehind(10, 3, 3), 10);
        WeatherTea gone = Tea.brewed("front a is warm force 1 at 0 for 1; front b is warm force 1 at 2 for 1;");
        gone.heat(30);
        int[] warmth = {31, 30, 31, 30, 29};
        for (int hour = 0; hour < warmth.length; hour++) {
            gone.passHours(1);
            due.is("a front at the hours 0 and 2, behind the hour " + hour, gone.warmth(), warmth[hour]);
        }
        WeatherTea steeped = Tea.brewed("front a is warm force 1 at 0 for 9; steep a;");
        steeped.heat(30);
        steeped.passHours(1);
        due.is("a front steeped in this hour", steeped.warmth(), 29);
    }

    /** Promise 32: "The charge is as much more as those of the kind of both have force that have less of it (0, if there are none of one kind), at most 30" */
    static void theChargeIsTheLesserForceMore() {
        due.is("1 and 9", chargeBehind(0, 1, 9), 1);
        due.is("9 and 1", chargeBehind(0, 9, 1), 1);
        due.is("11 and 11", chargeBehind(0, 11, 11), 11);
        due.is("0 and 90", chargeBehind(0, 0, 90), 0);
        due.is("90 and 0", chargeBehind(0, 90, 0), 0);
        due.is("none", chargeBehind(0, 0, 0), 0);
        due.is("none, with a lemon", chargeBehind(1, 0, 0), 6);
        due.is("29, and a storm", chargeBehind(3, 11, 11), 17);
        due.is("30, and a storm", chargeBehind(3, 12, 12), 18);
        due.is("31, held at 30, and a storm", chargeBehind(3, 13, 13), 18);
        due.is("63, held at 30, and a storm", chargeBehind(3, 45, 45), 18);
        due.is("45, held at 30, and a storm", chargeBehind(0, 45, 45), 18);
    }

    // ---- an hour: storms

    /**
     * Promise 32: "If the charge is 12 or more, there is a storm"
     * Promise 32: "and the charge 12 less"
     */
    static void aStormAt12() {
        for (int force = 1; force <= 30; force++) {
            WeatherTea tea = Tea.brewed(Tea.fronts("w", "warm", force, 0, 1) + Tea.fronts("c", "cold", force, 0, 1));
            due.is("passHours(1) with " + force, tea.passHours(1), force >= 12 ? 1 : 0);
            due.is("charge() with " + force, tea.charge(), force >= 12 ? force - 12 : force);
            due.is("storms() with " + force, tea.storms(), force >= 12 ? 1 : 0);
        }
    }

    /** Promise 15: "Returns how many storms there were." */
    static void oneStormAnHour() {
        WeatherTea tea = Tea.charged(18, "");
        due.is("storms() at first", tea.storms(), 1);
        tea.lemon();
        due.is("charge 24", tea.passHours(1), 1);
        due.is("charge 12", tea.charge(), 12);
        due.is("charge 12 brings another", tea.passHours(1), 1);
        due.is("charge 0", tea.charge(), 0);
        due.is("charge 0 brings none", tea.passHours(1), 0);
        due.is("storms()", tea.storms(), 3);
    }

    /** Promise 32: "each guest who is seated and has less nerve than the charge is stormed, and leaves" */
    static void whoHasLessNerveThanTheCharge() {
        int[][] nerveAndCharge = {{11, 12}, {12, 12}, {13, 12}, {12, 13}, {17, 18}, {18, 18}, {19, 18}, {20, 20}, {20, 21}, {19, 20}, {20, 30}, {0, 12}, {0, 30}};
        for (int[] one : nerveAndCharge) {
            WeatherTea tea = Tea.brewed("guest g at 0 likes 0 to 30 nerve " + one[0] + ";"
                    + Tea.fronts("w", "warm", one[1], 0, 1) + Tea.fronts("c", "cold", one[1], 0, 1));
            tea.passHours(1);
            String what = "nerve " + one[0] + " at " + one[1];
            due.is("wasStormed(0), " + what, tea.wasStormed(0), one[0] < one[1]);
            due.is("isSeated(0), " + what, tea.isSeated(0), one[0] >= one[1]);
            due.is("stormed(), " + what, tea.stormed(), one[0] < one[1] ? 1 : 0);
            due.is("seatedGuests(), " + what, tea.seatedGuests(), one[0] < one[1] ? 0 : 1);
        }
        WeatherTea calm = Tea.brewed("guest g at 0 likes 0 to 30 nerve 0;" + Tea.fronts("w", "warm", 11, 0, 1) + Tea.fronts("c", "cold", 11, 0, 1));
        calm.passHours(1);
        due.is("no storm at 11, whatever the nerve", calm.wasStormed(0), false);
    }

    /** Promise 32: "each guest who is seated" */
    static void onlyWhoIsSeatedIsStormed() {
        String storm = Tea.fronts("w", "warm", 12, 7, 1) + Tea.fronts("c", "cold", 12, 7, 1);
        WeatherTea tea = Tea.brewed(storm + "guest a at 0 likes 0 to 30 nerve 0; guest b at 7 likes 0 to 30 nerve 0; guest c at 8 likes 0 to 30 nerve 0;"
                + "guest d at 0 likes 0 to 30 nerve 0; guest e at 7 likes 0 to 30 nerve 0; serve e; serve d when hour=3;");
        tea.passHours(7);
        due.is("a storm in the hour 7", tea.passHours(1), 1);
        due.is("in the last hour of eight", tea.wasStormed(0), true);
        due.is("in the first hour", tea.wasStormed(1), true);
        due.is("who comes behind the storm", tea.wasStormed(2), false);
        due.is("who comes behind the storm is seated", tea.isSeated(2), true);
        due.is("who was served long ago", tea.wasStormed(3), false);
        due.is("who was served in this hour", tea.wasStormed(4), false);
        due.is("who was served in this hour was served", tea.wasServed(4), true);
        due.is("stormed()", tea.stormed(), 2);
        String later = Tea.fronts("w", "warm", 12, 8, 1) + Tea.fronts("c", "cold", 12, 8, 1);
        WeatherTea left = Tea.brewed(later + "guest a at 0 likes 0 to 30 nerve 0;");
        left.passHours(8);
        due.is("a storm in the hour 8", left.passHours(1), 1);
        due.is("who has left behind eight hours", left.wasStormed(0), false);
    }

    /** Promise 32: "then the strength is half of it (cut)" */
    static void aStormHalvesTheStrength() {
        for (int strength : new int[] {0, 1, 2, 3, 7, 8, 29, 30}) {
            WeatherTea tea = Tea.strong(strength, "");
            tea.lemon();
            tea.lemon();
            due.is("a storm", tea.passHours(1), 1);
            due.is("half of " + strength, tea.strength(), strength / 2);
            tea.passHours(1);
            due.is("no storm, " + strength, tea.strength(), strength / 2);
        }
    }

    // ---- an hour: its end

    /** Promise 8: "The hour is 1 greater." */
    static void theHourIsOneGreater() {
        WeatherTea tea = new WeatherTea();
        for (int hour = 1; hour <= 75; hour++) {
            tea.passHours(1);
            due.is("hour()", tea.hour(), hour);
        }
        tea.passHours(30);
        due.is("hour() behind 30 more", tea.hour(), 105);
    }

    /** Promise 32: "Fronts whose time is over are not over the pot any more, guests who sat for 8 hours leave; then fronts and guests come whose hour it is." */
    static void whoGoesAndWhoComes() {
        WeatherTea tea = Tea.brewed("front a is warm force 3 at 0 for 1; front b is cold force 3 at 1 for 1; front c is warm force 3 at 1 for 2;"
                + "guest g at 0 likes 0 to 30 nerve 0; guest h at 8 likes 0 to 30 nerve 0;");
        tea.passHours(1);
        due.is("only a in the hour 0", tea.warmth() * 100 + tea.charge(), 2300);
        due.is("a is gone, b and c are there", !tea.isOver(0) && tea.isOver(1) && tea.isOver(2), true);
        tea.passHours(1);
        due.is("b and c in the hour 1", tea.warmth() * 100 + tea.charge(), 2303);
        due.is("b is gone, c is there", !tea.isOver(1) && tea.isOver(2), true);
        tea.passHours(1);
        due.is("only c in the hour 2", tea.warmth() * 100 + tea.charge(), 2603);
        due.is("none is there", tea.meanForce() == 0, true);
        tea.passHours(4);
        due.is("at the hour 7", tea.isSeated(0) && !tea.isSeated(1), true);
        tea.passHours(1);
        due.is("at the hour 8", !tea.isSeated(0) && tea.isSeated(1), true);
    }

    /** Promise 32: "guests who sat for 8 hours leave" */
    static void whoLeavesIsNeitherServedNorStormed() {
        WeatherTea tea = Tea.brewed("guest g at 0 likes 0 to 30 nerve 0; guest h at 0 likes 0 to 30 nerve 0; serve g when hour=7; serve h when hour=8;");
        tea.passHours(9);
        due.is("served in the last of eight hours", tea.wasServed(0), true);
        due.is("an hour too late", tea.wasServed(1), false);
        due.is("stormed()", tea.stormed(), 0);
        due.is("served()", tea.served(), 1);
    }
}
