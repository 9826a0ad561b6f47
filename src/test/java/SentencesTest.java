/** The sentences of the document that name no edge, from its first line to its last. A remark tells the sentence. */
public final class SentencesTest {

    private static final Due due = new Due("SentencesTest");
    private static final Reading reading = new Reading(due);
    private static final Class<IllegalStateException> STATE = IllegalStateException.class;
    /** Two fronts over the pot at the hour 0, one that comes later; two guests at the hour 0, one that comes later. */
    private static final String POT = "front a is warm force 5 at 0 for 3; front b is cold force 7 at 0 for 2; front c is cold force 2 at 2 for 4;"
            + "guest g at 0 likes 5 to 9 nerve 3; guest h at 0 likes 0 to 30 nerve 20; guest i at 2 likes 10 to 12 nerve 0;";

    public static void main(String[] args) {
        due.runAll(SentencesTest.class);
    }

    private static void fronts(WeatherTea tea, String what, boolean... over) {
        for (int i = 0; i < over.length; i++) {
            due.is("isOver(" + i + ") " + what, tea.isOver(i), over[i]);
        }
    }

    private static void guests(WeatherTea tea, String what, boolean... seated) {
        for (int i = 0; i < seated.length; i++) {
            due.is("isSeated(" + i + ") " + what, tea.isSeated(i), seated[i]);
        }
    }

    /** What the calls of promises 6 to 18 tell. */
    private static String counts(WeatherTea tea) {
        int[] all = {tea.fronts(), tea.guests(), tea.hour(), tea.warmth(), tea.strength(), tea.charge(), tea.lemons(), tea.saucers(),
            tea.coins(), tea.storms(), tea.seatedGuests(), tea.served(), tea.stormed()};
        return java.util.Arrays.toString(all);
    }

    private static void counted(WeatherTea tea, String what, String want) {
        boolean right = counts(tea).equals("[" + want + "]");
        due.is(what + " is " + counts(tea) + ", which is [" + want + "]", right, true);
    }

    // ---- Terms

    /** Promises 21 and 27: "Warm and cold fronts come over the pot and go; steeped, they make the tea strong" */
    static void frontsComeAndGoAndMakeTheTeaStrong() {
        WeatherTea tea = Tea.brewed(POT);
        fronts(tea, "at 0", true, true, false);
        due.is("steep(0)", tea.steep(0), 5);
        fronts(tea, "behind steep(0)", false, true, false);
        tea.passHours(2);
        fronts(tea, "at 2", false, false, true);
        due.is("steep(2)", tea.steep(2), 7);
        fronts(tea, "behind steep(2)", false, false, false);
    }

    /** Promises 28, 29 and 32: "where warm ones and cold ones meet, charge comes, and lemons bring lightning; saucers calm it" */
    static void whatMakesTheCharge() {
        WeatherTea tea = Tea.brewed(POT);
        due.is("an hour of 5 warm and 7 cold", tea.passHours(1), 0);
        due.is("charge()", tea.charge(), 5);
        due.is("saucer()", tea.saucer(), 0);
        due.is("lemon()", tea.lemon(), 6);
        due.is("an hour that comes to 11", tea.passHours(1), 0);
        due.is("lemon() again", tea.lemon(), 17);
        due.is("lightning", tea.passHours(1), 1);
    }

    /** Promise 32: "a storm spills half of the tea, and guests without the nerve for it leave" */
    static void aStormSpillsHalfOfTheTea() {
        WeatherTea tea = Tea.brewed(POT);
        tea.steep(0);
        tea.lemon();
        tea.lemon();
        due.is("passHours(1)", tea.passHours(1), 1);
        due.is("strength()", tea.strength(), 2);
        guests(tea, "behind the storm", false, true, false);
    }

    /** Promise 32: "a plan steeps, squeezes, calms and serves from hour to hour" */
    static void aPlanDoesTheFourDeeds() {
        WeatherTea tea = Tea.brewed(POT + "steep a; lemon when hour = 1; saucer when hour = 2; serve g when hour = 3;");
        counted(tea, "the pot at 0", "3, 3, 0, 20, 0, 0, 3, 3, 0, 0, 2, 0, 0");
        tea.passHours(1);
        counted(tea, "the pot behind steep a", "3, 3, 1, 13, 5, 0, 3, 3, 0, 0, 2, 0, 0");
        tea.passHours(1);
        counted(tea, "the pot behind lemon", "3, 3, 2, 6, 5, 6, 2, 3, 0, 0, 3, 0, 0");
        tea.passHours(1);
        counted(tea, "the pot behind saucer", "3, 3, 3, 4, 5, 1, 2, 2, 0, 0, 3, 0, 0");
        tea.heat(15);
        tea.passHours(1);
        counted(tea, "the pot behind serve g", "3, 3, 4, 13, 2, 1, 2, 2, 5, 0, 2, 1, 0");
    }

    // ---- the language

    /** Promise 4: "It is a row of tokens." */
    static void howTokensArePartedDoesNotMatter() {
        String plan = "front f1 is warm force 3 at 0 for 5;\nsteep f1 when not[-hour*(2+1)<=min(1,2)and over f1]or 1>=2;";
        String[] tokens = ("front f1 is warm force 3 at 0 for 5 ; steep f1 when not [ - hour * ( 2 + 1 ) <= min ( 1 , 2 ) and over f1 ] or 1 >= 2 ;")
                .split(" ");
        for (String between : new String[] {" ", "\n", "  ", " \n\n "}) {
            String text = String.join(between, tokens);
            reading.plan(text);
            due.is("the same plan", Tea.state(Tea.brewed(text)).equals(Tea.state(Tea.brewed(plan))), true);
        }
    }

    /** Promise 4: "and | separates alternatives; keywords and symbols of the language are in quotation marks" */
    static void quotationMarksAndBarsAreNotOfTheLanguage() {
        reading.plan("lemon;");
        reading.plan("saucer;");
        reading.errorAtMark("^\"lemon\";", 1);
        reading.errorAtMark("lemon ^| saucer;", 1);
        reading.errorAtMark("lemon ^\";\"", 1);
        reading.errorAtMark("^{lemon;}", 1);
        reading.errorAtMark("^[lemon];", 1);
        reading.errorAtMark("lemon ^[when 1=1];", 1);
    }

    /**
     * Promise 4: "plan = { line ";" }"
     * Promise 4: "| "guest" name "at" number "likes" number "to" number "nerve" number | order [ "when" test ]"
     * Promise 4: "order = ( "steep" | "serve" ) name | "lemon" | "saucer""
     */
    static void theLinesInTheirForms() {
        reading.plan("front f is warm force 1 at 2 for 3;");
        reading.plan("front f is cold force 1 at 2 for 3;");
        reading.plan("guest g at 1 likes 2 to 3 nerve 4;");
        for (String order : new String[] {"steep a", "serve g", "lemon", "saucer"}) {
            reading.plan(POT + order + ";");
            reading.plan(POT + order + " when hour = 1;");
            reading.errorAtMark(POT + order + "^", 1);
            reading.errorAtMark(POT + order + " ^if hour = 1;", 1);
        }
        reading.errorAtMark("steep^;", 1);
        reading.errorAtMark("serve^;", 1);
        reading.errorAtMark("lemon ^a;", 1);
        reading.errorAtMark("saucer ^a;", 1);
        reading.errorAtMark("front f is ^hot force 1 at 2 for 3;", 1);
        reading.errorAtMark("guest g ^is warm;", 1);
    }

    /** Promise 4: "test = both { "or" both } both = single { "and" single }" */
    static void andsWithinOrs() {
        for (int bits = 0; bits < 16; bits++) {
            String[] single = new String[4];
            for (int i = 0; i < 4; i++) {
                single[i] = (bits >> i & 1) + "=1";
            }
            boolean want = (bits & 3) == 3 || (bits & 12) == 12;
            due.is(bits + " and, or, and", Tea.holds(single[0] + " and " + single[1] + " or " + single[2] + " and " + single[3]), want);
            want = bits % 2 == 1 || (bits & 6) == 6 || bits >= 8;
            due.is(bits + " or, and, or", Tea.holds(single[0] + " or " + single[1] + " and " + single[2] + " or " + single[3]), want);
        }
    }

    /** Promise 4: "product = value { ( "*" | "/" ) value }" */
    static void productsGoFromLeftToRight() {
        due.is("2*3*4", Tea.holds("2*3*4 = 24"), true);
        due.is("24/3/2", Tea.holds("24/3/2 = 4"), true);
        due.is("24/3*2", Tea.holds("24/3*2 = 16"), true);
        due.is("7*3/2", Tea.holds("7*3/2 = 10"), true);
        due.is("1+6/2*3-1", Tea.holds("1+6/2*3-1 = 9"), true);
    }

    /** Promise 4: "| "-" value | "(" sum ")" |" */
    static void turnedValuesAndBrackets() {
        due.is("-3", Tea.holds("-3 = 0-3"), true);
        due.is("--3", Tea.holds("--3 = 3"), true);
        due.is("-(3-5)", Tea.holds("-(3-5) = 2"), true);
        due.is("-max", Tea.holds("-max(1, 2) = -2"), true);
        due.is("-warmth", Tea.holds("-warmth = 0-20"), true);
        due.is("(3)", Tea.holds("(3) = 3"), true);
        due.is("2*(3-5)", Tea.holds("2*(3-5) = -4"), true);
    }

    // ---- the pot

    /** Promise 8: "Returns the hour." */
    static void theHour() {
        WeatherTea tea = Tea.brewed(POT);
        due.is("hour() at first", tea.hour(), 0);
        tea.passHours(1);
        due.is("hour()", tea.hour(), 1);
        tea.passHours(12);
        due.is("hour()", tea.hour(), 13);
        Tea.teach(tea, "lemon");
        due.is("hour() behind an error", tea.hour(), 13);
        Tea.teach(tea, "lemon;");
        due.is("hour() behind another plan", tea.hour(), 0);
    }

    /** Promise 9: "Returns how warm the tea is." */
    static void theWarmth() {
        WeatherTea tea = Tea.brewed(POT);
        due.is("warmth() at first", tea.warmth(), 20);
        tea.passHours(1);
        due.is("warmth() behind 5 more and 7 less", tea.warmth(), 18);
        tea.heat(33);
        due.is("warmth() behind heat(33)", tea.warmth(), 33);
    }

    /** Promise 10: "Returns how strong it is." */
    static void theStrength() {
        WeatherTea tea = Tea.brewed(POT);
        due.is("strength() at first", tea.strength(), 0);
        tea.steep(1);
        due.is("strength() behind steep(1)", tea.strength(), 7);
        tea.serve(0);
        due.is("strength() behind serve(0)", tea.strength(), 4);
    }

    /** Promise 11: "Returns its charge." */
    static void theCharge() {
        WeatherTea tea = Tea.brewed(POT);
        due.is("charge() at first", tea.charge(), 0);
        tea.lemon();
        due.is("charge() behind lemon()", tea.charge(), 6);
        tea.saucer();
        due.is("charge() behind saucer()", tea.charge(), 1);
    }

    /**
     * Promise 12: "Returns how many lemons there are."
     * Promise 13: "Returns how many saucers there are."
     */
    static void lemonsAndSaucers() {
        WeatherTea tea = Tea.brewed(POT);
        due.is("lemons() and saucers() at first", tea.lemons() * 10 + tea.saucers(), 33);
        tea.lemon();
        due.is("lemons() and saucers() behind lemon()", tea.lemons() * 10 + tea.saucers(), 23);
        tea.saucer();
        tea.saucer();
        due.is("lemons() and saucers() behind saucer(), twice", tea.lemons() * 10 + tea.saucers(), 21);
    }

    /** Promise 14: "Returns how many coins there are." */
    static void theCoins() {
        WeatherTea tea = Tea.brewed(POT);
        due.is("coins() at first", tea.coins(), 0);
        tea.steep(1);
        tea.serve(0);
        due.is("coins() behind 7", tea.coins(), 7);
        tea.serve(1);
        due.is("coins() behind 4 more", tea.coins(), 11);
        tea.passHours(9);
        due.is("coins() stay", tea.coins(), 11);
    }

    // ---- fronts

    /** Promise 19: "- `front`: a front Returns whether it is warm; otherwise it is cold." */
    static void whetherAFrontIsWarm() {
        WeatherTea tea = Tea.brewed(POT);
        due.is("isWarm(0)", tea.isWarm(0), true);
        due.is("isWarm(1)", tea.isWarm(1), false);
        due.is("isWarm(2)", tea.isWarm(2), false);
        tea.steep(0);
        tea.passHours(9);
        due.is("isWarm(0) of a steeped one", tea.isWarm(0), true);
        due.is("isWarm(2) of one who is gone", tea.isWarm(2), false);
    }

    /** Promise 20: "- `front`: a front Returns its force." */
    static void theForceOfAFront() {
        WeatherTea tea = Tea.brewed(POT);
        int[] forces = {5, 7, 2};
        for (int i = 0; i < forces.length; i++) {
            due.is("forceOf(" + i + ")", tea.forceOf(i), forces[i]);
        }
        tea.steep(0);
        tea.passHours(9);
        for (int i = 0; i < forces.length; i++) {
            due.is("forceOf(" + i + ") later", tea.forceOf(i), forces[i]);
        }
    }

    /** Promise 21: "- `front`: a front Returns whether it is over the pot." */
    static void whetherAFrontIsOverThePot() {
        WeatherTea tea = Tea.brewed(POT);
        fronts(tea, "at 0", true, true, false);
        tea.passHours(1);
        fronts(tea, "at 1", true, true, false);
        tea.passHours(1);
        fronts(tea, "at 2", true, false, true);
        tea.steep(0);
        fronts(tea, "at 2, behind steep(0)", false, false, true);
        tea.passHours(4);
        fronts(tea, "at 6", false, false, false);
    }

    /** Promise 22: "- `front`: a front Returns whether it was steeped." */
    static void whetherAFrontWasSteeped() {
        WeatherTea tea = Tea.brewed(POT + "steep b when hour = 1;");
        due.is("isSteeped(0) at first", tea.isSteeped(0), false);
        tea.steep(0);
        due.is("isSteeped(0)", tea.isSteeped(0), true);
        due.is("isSteeped(1) at 0", tea.isSteeped(1), false);
        tea.passHours(2);
        due.is("isSteeped(1) at 2", tea.isSteeped(1), true);
        tea.passHours(9);
        due.is("isSteeped(2) of one who went", tea.isSteeped(2), false);
    }

    // ---- guests

    /** Promise 23: "- `guest`: a guest Returns whether this one is seated." */
    static void whetherAGuestIsSeated() {
        WeatherTea tea = Tea.brewed(POT);
        guests(tea, "at 0", true, true, false);
        tea.serve(1);
        guests(tea, "behind serve(1)", true, false, false);
        tea.passHours(2);
        guests(tea, "at 2", true, false, true);
        // Or there would be a storm.
        tea.steep(2);
        tea.passHours(6);
        guests(tea, "at 8", false, false, true);
    }

    /** Promise 24: "- `guest`: a guest Returns whether this one is content." */
    static void whetherAGuestIsContent() {
        WeatherTea tea = Tea.brewed(POT);
        due.is("isContent(0) at 0", tea.isContent(0), false);
        due.is("isContent(1) at 0", tea.isContent(1), true);
        tea.steep(0);
        due.is("isContent(0) at 5", tea.isContent(0), true);
        tea.steep(1);
        due.is("isContent(0) at 12", tea.isContent(0), false);
        due.is("isContent(2) who has not come", tea.isContent(2), false);
        tea.passHours(2);
        due.is("isContent(2) who has come", tea.isContent(2), true);
        tea.heat(9);
        due.is("isContent(2) of cold tea", tea.isContent(2), false);
    }

    /** Promise 25: "- `guest`: a guest Returns whether this one was served." */
    static void whetherAGuestWasServed() {
        WeatherTea tea = Tea.brewed(POT + "serve g;");
        due.is("wasServed(1) at first", tea.wasServed(1), false);
        tea.serve(1);
        due.is("wasServed(1)", tea.wasServed(1), true);
        tea.steep(1);
        due.is("wasServed(0) at 0", tea.wasServed(0), false);
        tea.passHours(1);
        due.is("wasServed(0) at 1", tea.wasServed(0), true);
        tea.passHours(20);
        due.is("wasServed(2) who went", tea.wasServed(2), false);
    }

    /** Promise 26: "- `guest`: a guest Returns whether this one was stormed." */
    static void whetherAGuestWasStormed() {
        WeatherTea tea = Tea.brewed(POT);
        tea.lemon();
        tea.lemon();
        due.is("wasStormed(0) at 0", tea.wasStormed(0), false);
        tea.passHours(1);
        due.is("wasStormed(0)", tea.wasStormed(0), true);
        due.is("wasStormed(1) with more nerve", tea.wasStormed(1), false);
        due.is("wasStormed(2) who was not there", tea.wasStormed(2), false);
    }

    // ---- by hand

    /**
     * Promise 27: "Steeps a front. - `front`: the front Returns the strength then."
     * Promise 27: "Throws `IllegalStateException` if it cannot be done"
     */
    static void steepingByHand() {
        WeatherTea tea = Tea.brewed(POT);
        due.is("steep(1)", tea.steep(1), 7);
        due.is("steep(0)", tea.steep(0), 12);
        counted(tea, "the pot behind it", "3, 3, 0, 20, 12, 0, 3, 3, 0, 0, 2, 0, 0");
        due.refuses("steep(1) again", tea, STATE, () -> tea.steep(1));
        due.refuses("steep(2) of one that has not come", tea, STATE, () -> tea.steep(2));
    }

    /**
     * Promise 28: "Squeezes a lemon. Returns the charge then."
     * Promise 28: "Throws `IllegalStateException` if it cannot be done"
     */
    static void squeezingByHand() {
        WeatherTea tea = Tea.brewed(POT);
        due.is("lemon()", tea.lemon(), 6);
        counted(tea, "the pot behind it", "3, 3, 0, 20, 0, 6, 2, 3, 0, 0, 2, 0, 0");
        due.is("lemon() again", tea.lemon(), 12);
        due.is("the third lemon()", tea.lemon(), 18);
        due.refuses("the fourth lemon()", tea, STATE, tea::lemon);
    }

    /**
     * Promise 29: "Puts a saucer under the pot. Returns the charge then."
     * Promise 29: "Throws `IllegalStateException` if it cannot be done"
     */
    static void calmingByHand() {
        WeatherTea tea = Tea.brewed(POT);
        tea.lemon();
        tea.lemon();
        due.is("saucer()", tea.saucer(), 7);
        counted(tea, "the pot behind it", "3, 3, 0, 20, 0, 7, 1, 2, 0, 0, 2, 0, 0");
        due.is("saucer() again", tea.saucer(), 2);
        due.is("the third saucer()", tea.saucer(), 0);
        due.refuses("the fourth saucer()", tea, STATE, tea::saucer);
    }

    /**
     * Promise 30: "Serves a guest. - `guest`: the guest Returns how many coins this one pays."
     * Promise 30: "Throws `IllegalStateException` if it cannot be done"
     */
    static void servingByHand() {
        WeatherTea tea = Tea.brewed(POT);
        due.refuses("serve(0) of tea that is too weak", tea, STATE, () -> tea.serve(0));
        tea.steep(1);
        due.is("serve(0)", tea.serve(0), 7);
        counted(tea, "the pot behind it", "3, 3, 0, 20, 4, 0, 3, 3, 7, 0, 1, 1, 0");
        due.is("serve(1)", tea.serve(1), 4);
        due.refuses("serve(1) again", tea, STATE, () -> tea.serve(1));
    }

    /** Promise 31: "Warms or cools the tea. - `warmth`: the warmth from now on Returns the one before." */
    static void heatingByHand() {
        WeatherTea tea = Tea.brewed(POT);
        due.is("heat(31)", tea.heat(31), 20);
        counted(tea, "the pot behind it", "3, 3, 0, 31, 0, 0, 3, 3, 0, 0, 2, 0, 0");
        due.is("heat(7)", tea.heat(7), 31);
        due.is("heat(7) again", tea.heat(7), 7);
        tea.passHours(1);
        due.is("the warmth goes on from there", tea.warmth(), 5);
    }

    // ---- hours and what would be

    /** Promise 32: "Lets hours go by. - `hours`: how many" */
    static void hoursGoBy() {
        WeatherTea tea = Tea.brewed(POT + "steep a when hour = 1; lemon when hour > 2;");
        WeatherTea single = Tea.brewed(POT + "steep a when hour = 1; lemon when hour > 2;");
        for (int hours = 1; hours <= 12; hours++) {
            int storms = 0;
            for (int i = 0; i < hours; i++) {
                storms += single.passHours(1);
            }
            due.is("passHours(" + hours + ")", tea.passHours(hours), storms);
            due.is("the same as one by one", Tea.state(tea).equals(Tea.state(single)), true);
        }
    }

    /** Promise 33: "- `hours`: how many hours Returns how many coins there are behind them" */
    static void coinsBehindHours() {
        WeatherTea tea = Tea.brewed(POT + "steep b when hour = 1; serve g when hour = 2; serve h when hour = 4;");
        int[] coins = {0, 0, 7, 7, 11, 11};
        for (int hours = 1; hours <= coins.length; hours++) {
            due.is("coinsAfter(" + hours + ")", tea.coinsAfter(hours), coins[hours - 1]);
        }
        due.is("hour() is the same", tea.hour(), 0);
        tea.passHours(3);
        due.is("coinsAfter(1) at 3", tea.coinsAfter(1), 7);
        due.is("coinsAfter(2) at 3", tea.coinsAfter(2), 11);
    }

    /** Promise 35: "- `guest`: a guest" */
    static void hoursTillEachGuestIsServed() {
        WeatherTea tea = Tea.brewed(POT + "steep b when hour = 1; serve g when hour = 2; serve h when hour = 4;");
        due.is("hoursUntilServed(0)", tea.hoursUntilServed(0), 3);
        due.is("hoursUntilServed(1)", tea.hoursUntilServed(1), 5);
        due.is("hoursUntilServed(2)", tea.hoursUntilServed(2), -1);
    }

    /** Promise 36: "Looks for the front over the pot that had best be steeped now" */
    static void theFrontThatHadBestBeSteeped() {
        // With the one of 5 one guest would be content, with the one of 7 two, with the one of 2, which has not come, three.
        String plan = "front a is warm force 5 at 0 for 3; front b is cold force 7 at 0 for 2; front c is cold force 2 at 2 for 4;"
                + "guest g at 0 likes 5 to 7 nerve 0; guest h at 0 likes 7 to 9 nerve 0; guest i at 0 likes 2 to 2 nerve 0; guest j at 0 likes 2 to 3 nerve 0;"
                + "guest k at 0 likes 1 to 2 nerve 0;";
        WeatherTea tea = Tea.brewed(plan);
        due.is("bestToSteep() at 0", tea.bestToSteep(), 1);
        tea.passHours(2);
        due.is("bestToSteep() at 2", tea.bestToSteep(), 2);
        tea.steep(2);
        due.is("bestToSteep() behind steep(2)", tea.bestToSteep(), 0);
        tea.steep(0);
        due.is("bestToSteep() behind all", tea.bestToSteep(), -1);
    }

    /**
     * Promise 38: "Computes a checksum."
     * Promise 38: "fronts(), guests(), hour(), warmth(), strength(), charge(), lemons(), saucers(), coins(), storms(), seatedGuests(), served(), stormed(), bestToSteep()"
     * Promise 38: "for each front isOver(), isSteeped(); for each guest isSeated(), isContent(), wasServed(), wasStormed() (all in their order). Returns d."
     */
    static void theChecksum() {
        WeatherTea tea = Tea.brewed(POT + "lemon when hour > 1; steep a when hour = 2;");
        tea.steep(1);
        tea.serve(0);
        tea.saucer();
        for (int hour = 0; hour < 12; hour++) {
            due.is("digest() at " + hour, tea.digest(), checksum(tea));
            tea.passHours(1);
        }
        due.is("digest() of a new pot", new WeatherTea().digest(), checksum(new WeatherTea()));
    }

    private static long checksum(WeatherTea tea) {
        java.util.List<Integer> numbers = new java.util.ArrayList<>();
        for (String number : counts(tea).replaceAll("[\\[\\] ]", "").split(",")) {
            numbers.add(Integer.parseInt(number));
        }
        numbers.add(tea.bestToSteep());
        for (int i = 0; i < tea.fronts(); i++) {
            numbers.add(tea.isOver(i) ? 1 : 0);
            numbers.add(tea.isSteeped(i) ? 1 : 0);
        }
        for (int i = 0; i < tea.guests(); i++) {
            numbers.add(tea.isSeated(i) ? 1 : 0);
            numbers.add(tea.isContent(i) ? 1 : 0);
            numbers.add(tea.wasServed(i) ? 1 : 0);
            numbers.add(tea.wasStormed(i) ? 1 : 0);
        }
        long d = 1033;
        for (int number : numbers) {
            d = d * 31 + number;
        }
        return d;
    }
}
