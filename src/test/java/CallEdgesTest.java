/** The edges of the calls of promises 6 to 38. A test's remark tells the promise and the sentence. */
public final class CallEdgesTest {

    private static final Due due = new Due("CallEdgesTest");
    private static final Class<IndexOutOfBoundsException> INDEX = IndexOutOfBoundsException.class;
    private static final Class<IllegalStateException> STATE = IllegalStateException.class;
    private static final Class<IllegalArgumentException> ARGUMENT = IllegalArgumentException.class;

    /** What is asked of a pot with a number. */
    private interface Asked {
        long of(WeatherTea tea, int number);
    }

    public static void main(String[] args) {
        due.runAll(CallEdgesTest.class);
    }

    private static String tenFronts() {
        StringBuilder text = new StringBuilder();
        for (int i = 0; i < 10; i++) {
            text.append("front f").append(i).append(i % 2 == 0 ? " is warm" : " is cold").append(" force ").append(i % 9 + 1).append(" at 0 for 12;");
        }
        return text.toString();
    }

    private static String tenGuests(int nerve) {
        StringBuilder text = new StringBuilder();
        for (int i = 0; i < 10; i++) {
            text.append("guest g").append(i).append(" at 0 likes 0 to 30 nerve ").append(nerve).append(';');
        }
        return text.toString();
    }

    /** The call answers for each number below the count, and refuses every other one. */
    private static void indexes(String call, WeatherTea tea, int count, Asked asked) {
        for (int number : new int[] {-1, -2, count, count + 1, 10, 11, Integer.MIN_VALUE, Integer.MAX_VALUE}) {
            if (number < 0 || number >= count) {
                due.refuses(call + "(" + number + ") of " + count, tea, INDEX, () -> asked.of(tea, number));
            }
        }
        for (int number = 0; number < count; number++) {
            due.is(call + "(" + number + ") of " + count + " answers", asked.of(tea, number) >= -1, true);
        }
    }

    /** In pots with none, one, nine and ten, in one that had more before, and in one that had more fronts than guests. */
    private static void frontIndexes(String call, Asked asked) {
        indexes(call, new WeatherTea(), 0, asked);
        indexes(call, Tea.brewed("front f is warm force 1 at 0 for 1;" + tenGuests(0)), 1, asked);
        indexes(call, Tea.brewed(tenFronts().substring(0, tenFronts().indexOf("front f9"))), 9, asked);
        indexes(call, Tea.brewed(tenFronts()), 10, asked);
        WeatherTea fewer = Tea.brewed(tenFronts());
        Tea.teach(fewer, "front f is warm force 1 at 0 for 1; front h is warm force 1 at 0 for 1;");
        indexes(call, fewer, 2, asked);
        WeatherTea kept = Tea.brewed("front f is warm force 1 at 0 for 1;");
        Tea.teach(kept, tenFronts() + "lemon");
        indexes(call, kept, 1, asked);
    }

    private static void guestIndexes(String call, Asked asked) {
        indexes(call, new WeatherTea(), 0, asked);
        indexes(call, Tea.brewed("guest g at 0 likes 0 to 30 nerve 0;" + tenFronts()), 1, asked);
        indexes(call, Tea.brewed(tenGuests(0).substring(0, tenGuests(0).indexOf("guest g9"))), 9, asked);
        indexes(call, Tea.brewed(tenGuests(0)), 10, asked);
        WeatherTea fewer = Tea.brewed(tenGuests(0));
        Tea.teach(fewer, "guest g at 0 likes 0 to 30 nerve 0; guest h at 0 likes 0 to 30 nerve 0;");
        indexes(call, fewer, 2, asked);
        WeatherTea kept = Tea.brewed("guest g at 0 likes 0 to 30 nerve 0;");
        Tea.teach(kept, tenGuests(0) + "lemon");
        indexes(call, kept, 1, asked);
    }

    private static int ask(boolean so) {
        return so ? 1 : 0;
    }

    /** A call that only looks answers this, and changes nothing. */
    private static void looks(String what, WeatherTea tea, Due.Call call, long want) {
        String before = Tea.state(tea);
        due.is(what, call.answer(), want);
        due.is(what + " again", call.answer(), want);
        due.is(what + " changes nothing", Tea.state(tea).equals(before), true);
    }

    // ---- the pot

    /**
     * Promise 6: "Returns how many fronts there are."
     * Promise 7: "Returns how many guests there are."
     */
    static void frontsAndGuestsFrom0To10() {
        WeatherTea tea = new WeatherTea();
        due.is("fronts() and guests() of none", tea.fronts() * 100 + tea.guests(), 0);
        Tea.teach(tea, tenFronts());
        due.is("fronts() and guests() of ten fronts", tea.fronts() * 100 + tea.guests(), 1000);
        Tea.teach(tea, tenGuests(0));
        due.is("fronts() and guests() of ten guests", tea.fronts() * 100 + tea.guests(), 10);
        Tea.teach(tea, tenFronts() + tenGuests(0));
        due.is("fronts() and guests() of both", tea.fronts() * 100 + tea.guests(), 1010);
        tea.steep(0);
        tea.passHours(30);
        due.is("fronts() and guests() who all have gone", tea.fronts() * 100 + tea.guests(), 1010);
        Tea.teach(tea, "front f is warm force 1 at 60 for 1; guest g at 60 likes 0 to 0 nerve 0;");
        due.is("fronts() and guests() who have not come", tea.fronts() * 100 + tea.guests(), 101);
    }

    /**
     * Promise 16: "Returns how many guests are seated."
     * Promise 17: "Returns how many were served."
     * Promise 18: "Returns how many were stormed."
     */
    static void guestsAreCountedFrom0To10() {
        WeatherTea tea = Tea.brewed(tenGuests(12));
        for (int i = 0; i < 10; i++) {
            due.is("seatedGuests() and served() " + i, tea.seatedGuests() * 100 + tea.served(), (10 - i) * 100 + i);
            tea.serve(i);
        }
        due.is("seatedGuests() and served() of all", tea.seatedGuests() * 100 + tea.served(), 10);
        WeatherTea storm = Tea.brewed(tenGuests(11));
        due.is("stormed() at first", storm.stormed(), 0);
        storm.lemon();
        storm.lemon();
        storm.passHours(1);
        due.is("stormed() of all", storm.stormed(), 10);
        due.is("seatedGuests() of none", storm.seatedGuests(), 0);
        due.is("served() of none", storm.served(), 0);
        storm.passHours(30);
        due.is("stormed() stays", storm.stormed(), 10);
        tea.passHours(30);
        due.is("served() stays", tea.served(), 10);
    }

    // ---- indexes

    /** Promise 19: "Throws `IndexOutOfBoundsException` if there is no such front" */
    static void isWarmOfNoFront() {
        frontIndexes("isWarm", (tea, number) -> ask(tea.isWarm(number)));
        WeatherTea tea = Tea.brewed(tenFronts());
        due.is("isWarm(0), isWarm(8), isWarm(9)", tea.isWarm(0) && tea.isWarm(8) && !tea.isWarm(9), true);
    }

    /** Promise 20: "Throws `IndexOutOfBoundsException` if there is no such front" */
    static void forceOfNoFront() {
        frontIndexes("forceOf", WeatherTea::forceOf);
        WeatherTea tea = Tea.brewed(tenFronts());
        due.is("forceOf(0), forceOf(8), forceOf(9)", tea.forceOf(0) * 100 + tea.forceOf(8) * 10 + tea.forceOf(9), 191);
    }

    /** Promise 21: "Throws `IndexOutOfBoundsException` if there is no such front" */
    static void isOverOfNoFront() {
        frontIndexes("isOver", (tea, number) -> ask(tea.isOver(number)));
    }

    /** Promise 22: "Throws `IndexOutOfBoundsException` if there is no such front" */
    static void isSteepedOfNoFront() {
        frontIndexes("isSteeped", (tea, number) -> ask(tea.isSteeped(number)));
    }

    /** Promise 23: "Throws `IndexOutOfBoundsException` if there is no such guest" */
    static void isSeatedOfNoGuest() {
        guestIndexes("isSeated", (tea, number) -> ask(tea.isSeated(number)));
    }

    /** Promise 24: "Throws `IndexOutOfBoundsException` if there is no such guest" */
    static void isContentOfNoGuest() {
        guestIndexes("isContent", (tea, number) -> ask(tea.isContent(number)));
    }

    /** Promise 25: "Throws `IndexOutOfBoundsException` if there is no such guest" */
    static void wasServedOfNoGuest() {
        guestIndexes("wasServed", (tea, number) -> ask(tea.wasServed(number)));
    }

    /** Promise 26: "Throws `IndexOutOfBoundsException` if there is no such guest" */
    static void wasStormedOfNoGuest() {
        guestIndexes("wasStormed", (tea, number) -> ask(tea.wasStormed(number)));
    }

    /** Promise 27: "Throws `IndexOutOfBoundsException` if there is no such front" */
    static void steepOfNoFront() {
        frontIndexes("steep", WeatherTea::steep);
    }

    /** Promise 30: "Throws `IndexOutOfBoundsException` if there is no such guest" */
    static void serveOfNoGuest() {
        guestIndexes("serve", WeatherTea::serve);
    }

    /** Promise 35: "Throws `IndexOutOfBoundsException` if there is no such guest" */
    static void hoursUntilServedOfNoGuest() {
        guestIndexes("hoursUntilServed", WeatherTea::hoursUntilServed);
    }

    // ---- by hand

    /** Promise 27: "Steeping: the strength is as much more as the force of the front, at most 30" */
    static void steepingGoesTo30() {
        int[] from = {0, 0, 20, 21, 21, 22, 28, 28, 29, 29, 30, 30};
        int[] force = {1, 9, 9, 9, 8, 9, 1, 2, 1, 2, 1, 9};
        for (int i = 0; i < from.length; i++) {
            WeatherTea tea = Tea.strong(from[i], "front f is cold force " + force[i] + " at 0 for 1;");
            int want = Math.min(30, from[i] + force[i]);
            due.is("steep() of " + force[i] + " at " + from[i], tea.steep(tea.fronts() - 1), want);
            due.is("strength() behind it", tea.strength(), want);
            due.is("isSteeped() behind it", tea.isSteeped(tea.fronts() - 1), true);
            due.is("isOver() behind it", tea.isOver(tea.fronts() - 1), false);
            due.is("warmth() and charge() behind it", tea.warmth() * 100 + tea.charge(), 2000);
        }
    }

    /** Promise 27: "It can be done if the front is over the pot." */
    static void steepingNeedsTheFrontOverThePot() {
        for (int hour = 0; hour < 8; hour++) {
            WeatherTea tea = Tea.brewed("front f is warm force 4 at 2 for 3;");
            for (int i = 0; i < hour; i++) {
                tea.passHours(1);
            }
            if (hour < 2 || hour > 4) {
                due.refuses("steep(0) at " + hour, tea, STATE, () -> tea.steep(0));
                due.is("isSteeped(0) at " + hour, tea.isSteeped(0), false);
            } else {
                due.is("steep(0) at " + hour, tea.steep(0), 4);
                due.refuses("steep(0) again at " + hour, tea, STATE, () -> tea.steep(0));
                due.is("isSteeped(0) at " + hour, tea.isSteeped(0), true);
            }
        }
    }

    /** Promise 28: "Lemon: the charge is 6 more, at most 30" */
    static void aLemonGoesTo30() {
        for (int charge = 0; charge <= 18; charge++) {
            WeatherTea tea = Tea.charged(charge, "");
            due.is("charge()", tea.charge(), charge);
            for (int i = 1; i <= 3; i++) {
                int want = Math.min(30, charge + 6 * i);
                due.is("lemon() " + i + " at " + charge, tea.lemon(), want);
                due.is("charge() behind it", tea.charge(), want);
            }
        }
    }

    /** Promise 28: "there is a lemon less. It can be done if there is one." */
    static void thereAreThreeLemons() {
        WeatherTea tea = new WeatherTea();
        for (int left = 2; left >= 0; left--) {
            tea.lemon();
            due.is("lemons()", tea.lemons(), left);
        }
        due.refuses("the fourth lemon()", tea, STATE, tea::lemon);
        tea.passHours(2);
        due.refuses("lemon() hours later", tea, STATE, tea::lemon);
        due.is("lemons() hours later", tea.lemons(), 0);
        WeatherTea ordered = Tea.brewed("lemon;");
        ordered.passHours(3);
        due.refuses("lemon() behind three orders", ordered, STATE, ordered::lemon);
        Tea.teach(ordered, "");
        due.is("lemon() behind a teach()", ordered.lemon(), 6);
    }

    /** Promise 29: "Saucer: the charge is 5 less, at least 0" */
    static void aSaucerGoesTo0() {
        for (int charge = 0; charge <= 18; charge++) {
            WeatherTea tea = Tea.charged(charge, "");
            for (int i = 1; i <= 3; i++) {
                int want = Math.max(0, charge - 5 * i);
                due.is("saucer() " + i + " at " + charge, tea.saucer(), want);
                due.is("charge() behind it", tea.charge(), want);
            }
        }
    }

    /** Promise 29: "there is a saucer less. It can be done if there is one." */
    static void thereAreThreeSaucers() {
        WeatherTea tea = new WeatherTea();
        for (int left = 2; left >= 0; left--) {
            tea.saucer();
            due.is("saucers()", tea.saucers(), left);
        }
        due.refuses("the fourth saucer()", tea, STATE, tea::saucer);
        due.is("saucers()", tea.saucers(), 0);
        WeatherTea ordered = Tea.brewed("saucer;");
        ordered.passHours(3);
        due.refuses("saucer() behind three orders", ordered, STATE, ordered::saucer);
        Tea.teach(ordered, "");
        due.is("saucer() behind a teach()", ordered.saucer(), 0);
    }

    /** Promise 30: "Serving: the guest pays as many coins as the strength is, and is served; the strength is 3 less then, at least 0." */
    static void servingPaysTheStrength() {
        for (int strength : new int[] {0, 1, 2, 3, 4, 5, 29, 30}) {
            WeatherTea tea = Tea.strong(strength, "guest g at 0 likes 0 to 30 nerve 0; guest h at 0 likes 0 to 30 nerve 0;");
            int then = Math.max(0, strength - 3);
            due.is("serve(0) at " + strength, tea.serve(0), strength);
            due.is("strength() behind it", tea.strength(), then);
            due.is("coins() behind it", tea.coins(), strength);
            due.is("wasServed(0)", tea.wasServed(0), true);
            due.is("isSeated(0)", tea.isSeated(0), false);
            due.is("serve(1) behind it", tea.serve(1), then);
            due.is("coins() of both", tea.coins(), strength + then);
            due.is("strength() behind both", tea.strength(), Math.max(0, then - 3));
        }
    }

    /** Promise 30: "It can be done if the guest is content." */
    static void servingNeedsAContentGuest() {
        for (int strength : new int[] {4, 5, 7, 8}) {
            for (int warmth : new int[] {14, 15}) {
                WeatherTea tea = Tea.strong(strength, "guest g at 0 likes 5 to 7 nerve 0;");
                tea.heat(warmth);
                if (warmth < 15 || strength < 5 || strength > 7) {
                    due.refuses("serve(0) at " + strength + " and " + warmth, tea, STATE, () -> tea.serve(0));
                } else {
                    due.is("serve(0) at " + strength + " and " + warmth, tea.serve(0), strength);
                    due.refuses("serve(0) again", tea, STATE, () -> tea.serve(0));
                }
            }
        }
        WeatherTea tea = Tea.brewed("guest g at 1 likes 0 to 30 nerve 0; guest h at 1 likes 0 to 30 nerve 0; guest i at 3 likes 0 to 30 nerve 0;");
        due.refuses("serve(0) ahead of coming", tea, STATE, () -> tea.serve(0));
        tea.passHours(1);
        due.is("serve(0) in the first hour", tea.serve(0), 0);
        tea.passHours(7);
        due.is("serve(1) in the last hour", tea.serve(1), 0);
        tea.lemon();
        tea.lemon();
        tea.passHours(1);
        due.refuses("serve(2) of a stormed one", tea, STATE, () -> tea.serve(2));
        WeatherTea gone = Tea.brewed("guest g at 0 likes 0 to 30 nerve 0;");
        gone.passHours(8);
        due.refuses("serve(0) of one who left", gone, STATE, () -> gone.serve(0));
    }

    /** Promise 31: "Throws `IllegalArgumentException` if warmth is not 0 to 40" */
    static void heatTakes0To40() {
        WeatherTea tea = new WeatherTea();
        int before = 20;
        for (int warmth : new int[] {0, 1, 14, 39, 40, 40, 0, 20}) {
            due.is("heat(" + warmth + ")", tea.heat(warmth), before);
            due.is("warmth()", tea.warmth(), warmth);
            before = warmth;
        }
        for (int warmth : new int[] {-1, -2, 41, 42, Integer.MIN_VALUE, Integer.MAX_VALUE}) {
            due.refuses("heat(" + warmth + ")", tea, ARGUMENT, () -> tea.heat(warmth));
        }
    }

    /** Promises 27 and 30: "If several exceptions apply, the one that is named first is thrown." */
    static void theExceptionNamedFirst() {
        WeatherTea none = new WeatherTea();
        WeatherTea later = Tea.brewed("front f is warm force 1 at 5 for 1; guest g at 5 likes 0 to 0 nerve 0;");
        for (WeatherTea tea : new WeatherTea[] {none, later}) {
            for (int number : new int[] {-1, 1, 10}) {
                due.refuses("steep(" + number + ")", tea, INDEX, () -> tea.steep(number));
                due.refuses("serve(" + number + ")", tea, INDEX, () -> tea.serve(number));
            }
        }
        due.refuses("steep(0)", later, STATE, () -> later.steep(0));
        due.refuses("serve(0)", later, STATE, () -> later.serve(0));
    }

    /** Promises 2, 3 and 27 to 35: "A method that throws an exception changes nothing." */
    static void aRefusedCallChangesNothing() {
        WeatherTea tea = Tea.brewed("front f is warm force 5 at 0 for 9; front h is cold force 2 at 0 for 9; guest g at 0 likes 0 to 9 nerve 20;"
                + "guest h at 3 likes 9 to 9 nerve 0; lemon when hour=5; saucer when hour=5;");
        tea.steep(0);
        tea.serve(0);
        for (int i = 0; i < 3; i++) {
            tea.lemon();
            tea.saucer();
        }
        tea.passHours(3);
        Tea.write(tea, "lemon; @");
        String error = "refused ";
        due.refuses(error + "steep(0)", tea, STATE, () -> tea.steep(0));
        due.refuses(error + "steep(2)", tea, INDEX, () -> tea.steep(2));
        due.refuses(error + "serve(0)", tea, STATE, () -> tea.serve(0));
        due.refuses(error + "serve(1)", tea, STATE, () -> tea.serve(1));
        due.refuses(error + "serve(-1)", tea, INDEX, () -> tea.serve(-1));
        due.refuses(error + "lemon()", tea, STATE, tea::lemon);
        due.refuses(error + "saucer()", tea, STATE, tea::saucer);
        due.refuses(error + "heat(41)", tea, ARGUMENT, () -> tea.heat(41));
        due.refuses(error + "passHours(31)", tea, ARGUMENT, () -> tea.passHours(31));
        due.refuses(error + "coinsAfter(0)", tea, ARGUMENT, () -> tea.coinsAfter(0));
        due.refuses(error + "hoursUntilServed(2)", tea, INDEX, () -> tea.hoursUntilServed(2));
        due.refuses(error + "trim(9)", tea, ARGUMENT, () -> tea.trim(9));
        due.is("teach() of the tape, which is as it was", tea.teach(), 1);
        due.is("errorAt() of the tape, which is as it was", tea.errorAt(), 7);
    }

    // ---- hours

    /** Promise 32: "Throws `IllegalArgumentException` if hours is not 1 to 30" */
    static void passHoursTakes1To30() {
        WeatherTea tea = Tea.brewed("lemon when hour=30;");
        for (int hours : new int[] {0, -1, 31, 32, Integer.MIN_VALUE, Integer.MAX_VALUE}) {
            due.refuses("passHours(" + hours + ")", tea, ARGUMENT, () -> tea.passHours(hours));
        }
        due.is("passHours(30)", tea.passHours(30), 0);
        due.is("hour()", tea.hour(), 30);
        due.is("lemons() at the hour 30", tea.lemons(), 3);
        due.is("passHours(1)", tea.passHours(1), 0);
        due.is("hour()", tea.hour(), 31);
        due.is("lemons() at the hour 31", tea.lemons(), 2);
    }

    /** Promise 32: "Returns how many storms there are in them." */
    static void passHoursTellsTheStormsInThem() {
        // Each hour has its storm: 18 is left at the hour 24, and 9 come each hour.
        String storms = "front a is warm force 6 at 0 for 12; front b is warm force 6 at 0 for 12; front c is cold force 6 at 0 for 12; front d is cold force 6 at 0 for 12;"
                + "front e is warm force 9 at 12 for 12; front f is warm force 9 at 12 for 12; front g is cold force 9 at 12 for 12; front h is cold force 9 at 12 for 12;"
                + "front i is warm force 9 at 24 for 12; front j is cold force 9 at 24 for 12;";
        WeatherTea tea = Tea.brewed(storms);
        due.is("passHours(30) with a storm in each", tea.passHours(30), 30);
        due.is("storms()", tea.storms(), 30);
        due.is("charge()", tea.charge(), 0);
        due.is("passHours(1) without one", tea.passHours(1), 0);
        due.is("passHours(1) with one", tea.passHours(1), 1);
        due.is("storms() of all hours", tea.storms(), 31);
        WeatherTea single = Tea.brewed(storms);
        for (int hour = 0; hour < 30; hour++) {
            due.is("passHours(1) at " + hour, single.passHours(1), 1);
        }
        due.is("passHours(30) without fronts", new WeatherTea().passHours(30), 0);
    }

    /** Promise 33: "Throws `IllegalArgumentException` if hours is not 1 to 30" */
    static void coinsAfterTakes1To30() {
        // One pays 1 in the last of 30 hours, one would pay in the hour behind them.
        WeatherTea tea = Tea.brewed("front f is warm force 1 at 0 for 1; guest g at 29 likes 0 to 30 nerve 0; guest h at 30 likes 0 to 30 nerve 0;"
                + "front k is warm force 9 at 30 for 1; serve g; steep f; steep k; serve h;");
        for (int hours : new int[] {0, -1, 31, 32, Integer.MIN_VALUE, Integer.MAX_VALUE}) {
            due.refuses("coinsAfter(" + hours + ")", tea, ARGUMENT, () -> tea.coinsAfter(hours));
        }
        looks("coinsAfter(1)", tea, () -> tea.coinsAfter(1), 0);
        looks("coinsAfter(29)", tea, () -> tea.coinsAfter(29), 0);
        looks("coinsAfter(30)", tea, () -> tea.coinsAfter(30), 1);
        tea.passHours(1);
        looks("coinsAfter(29) an hour later", tea, () -> tea.coinsAfter(29), 1);
        looks("coinsAfter(30) an hour later", tea, () -> tea.coinsAfter(30), 10);
        tea.passHours(30);
        looks("coinsAfter(1) tells the coins of before too", tea, () -> tea.coinsAfter(1), 10);
    }

    /** Promise 34: "Returns behind how many hours there is one storm more, if nothing is done by hand, 1 to 60; -1 if not by then (nothing is changed)." */
    static void hoursUntilStormTells1To60() {
        WeatherTea none = new WeatherTea();
        looks("hoursUntilStorm() of a new pot", none, none::hoursUntilStorm, -1);
        for (int at : new int[] {0, 1, 2, 29, 58, 59, 60}) {
            WeatherTea tea = Tea.brewed(Tea.fronts("w", "warm", 12, at, 1) + Tea.fronts("c", "cold", 12, at, 1));
            looks("hoursUntilStorm() with one at " + at, tea, tea::hoursUntilStorm, at < 60 ? at + 1 : -1);
        }
        WeatherTea tea = Tea.brewed("lemon when hour>=59;");
        looks("hoursUntilStorm() of 61", tea, tea::hoursUntilStorm, -1);
        tea.passHours(1);
        looks("hoursUntilStorm() of 60", tea, tea::hoursUntilStorm, 60);
        tea.passHours(30);
        tea.passHours(29);
        looks("hoursUntilStorm() of 1", tea, tea::hoursUntilStorm, 1);
        tea.passHours(1);
        looks("hoursUntilStorm() behind the storm", tea, tea::hoursUntilStorm, -1);
        WeatherTea two = Tea.charged(18, "");
        two.lemon();
        looks("hoursUntilStorm() of one storm more", two, two::hoursUntilStorm, 1);
        two.passHours(1);
        looks("hoursUntilStorm() of the next one", two, two::hoursUntilStorm, 1);
    }

    /** Promise 35: "Returns behind how many hours this one was served, if nothing is done by hand: 0 if so now, at most 60; -1 if not by then (nothing is changed)." */
    static void hoursUntilServedTells0To60() {
        for (int at : new int[] {0, 1, 2, 29, 58, 59, 60}) {
            WeatherTea tea = Tea.brewed("guest g at " + at + " likes 0 to 30 nerve 0; serve g;");
            looks("hoursUntilServed(0) with one at " + at, tea, () -> tea.hoursUntilServed(0), at < 60 ? at + 1 : -1);
        }
        WeatherTea late = Tea.brewed("guest g at 60 likes 0 to 30 nerve 0; serve g;");
        late.passHours(1);
        looks("hoursUntilServed(0) of 60", late, () -> late.hoursUntilServed(0), 60);
        late.passHours(30);
        late.passHours(29);
        looks("hoursUntilServed(0) of 1", late, () -> late.hoursUntilServed(0), 1);
        late.passHours(1);
        looks("hoursUntilServed(0) of one who was", late, () -> late.hoursUntilServed(0), 0);
        late.passHours(30);
        looks("hoursUntilServed(0) of one who was long ago", late, () -> late.hoursUntilServed(0), 0);
        WeatherTea hand = Tea.brewed("guest g at 0 likes 0 to 30 nerve 0; guest h at 0 likes 0 to 30 nerve 0; serve h when hour=8;");
        looks("hoursUntilServed(0) without an order", hand, () -> hand.hoursUntilServed(0), -1);
        looks("hoursUntilServed(1) of one who leaves before", hand, () -> hand.hoursUntilServed(1), -1);
        hand.serve(0);
        looks("hoursUntilServed(0) served by hand", hand, () -> hand.hoursUntilServed(0), 0);
    }

    /** Promises 33 to 35: "if nothing is done by hand (nothing is changed)" */
    static void lookingAheadCountsWhatThereIs() {
        WeatherTea tea = Tea.strong(9, "guest g at 0 likes 9 to 9 nerve 12; guest h at 0 likes 1 to 8 nerve 20;"
                + "serve g when lemons=1 and saucers=2 and hour=1; serve h when storms=1;");
        looks("coinsAfter(9) of a full kitchen", tea, () -> tea.coinsAfter(9), 0);
        tea.lemon();
        tea.saucer();
        tea.lemon();
        looks("coinsAfter(9) of what is left", tea, () -> tea.coinsAfter(9), 9);
        looks("hoursUntilServed(0) of what is left", tea, () -> tea.hoursUntilServed(0), 2);
        tea.heat(13);
        looks("hoursUntilServed(0) of tea that is 14 then", tea, () -> tea.hoursUntilServed(0), -1);
        tea.heat(14);
        looks("hoursUntilServed(0) of tea that is 15 then", tea, () -> tea.hoursUntilServed(0), 2);
        tea.lemon();
        looks("hoursUntilStorm() at 13", tea, tea::hoursUntilStorm, 1);
        looks("coinsAfter(2) behind a storm", tea, () -> tea.coinsAfter(2), 4);
        looks("hoursUntilServed(1) behind a storm", tea, () -> tea.hoursUntilServed(1), 2);
        WeatherTea stormed = Tea.brewed("front f is warm force 9 at 2 for 1; guest g at 0 likes 0 to 30 nerve 0; guest h at 0 likes 0 to 30 nerve 20;"
                + "serve g when hour>1; serve h when hour>1; steep f;");
        looks("hoursUntilServed(0) without a storm", stormed, () -> stormed.hoursUntilServed(0), 3);
        stormed.lemon();
        stormed.lemon();
        stormed.passHours(1);
        looks("hoursUntilServed(0) of a stormed one", stormed, () -> stormed.hoursUntilServed(0), -1);
        looks("hoursUntilServed(1) of one who stayed", stormed, () -> stormed.hoursUntilServed(1), 2);
        looks("hoursUntilStorm() with the charge gone", stormed, stormed::hoursUntilStorm, -1);
    }

    // ---- what would be

    /** Promise 36: "so that the most guests are content then" */
    static void bestToSteepMakesTheMostContent() {
        String fronts = "front a is warm force 1 at 0 for 1; front b is cold force 2 at 0 for 1; front c is warm force 3 at 0 for 1; front d is cold force 9 at 1 for 1;";
        String[] likes = {"1 to 1", "2 to 2", "3 to 3", "1 to 2", "2 to 3", "9 to 9", "0 to 0", "0 to 30"};
        int[] best = {0, 1, 2, 0, 1, 0, 0, 0};
        for (int i = 0; i < likes.length; i++) {
            WeatherTea tea = Tea.brewed(fronts + "guest g at 0 likes " + likes[i] + " nerve 0;");
            looks("bestToSteep() for " + likes[i], tea, tea::bestToSteep, best[i]);
        }
        WeatherTea more = Tea.brewed(fronts + "guest g at 0 likes 1 to 1 nerve 0; guest h at 0 likes 3 to 3 nerve 0; guest i at 0 likes 3 to 4 nerve 0;");
        looks("bestToSteep() for two rather than one", more, more::bestToSteep, 2);
        more.heat(14);
        looks("bestToSteep() of tea that is too cold for all", more, more::bestToSteep, 0);
        more.heat(15);
        looks("bestToSteep() of tea that is just warm enough", more, more::bestToSteep, 2);
        WeatherTea both = Tea.brewed(fronts + "guest g at 0 likes 1 to 1 nerve 0; guest h at 0 likes 1 to 2 nerve 0; guest i at 0 likes 3 to 3 nerve 0;");
        looks("bestToSteep() for two ahead of one", both, both::bestToSteep, 0);
        WeatherTea full = Tea.strong(29, "front a is warm force 1 at 0 for 1; front b is warm force 2 at 0 for 1; guest g at 0 likes 30 to 30 nerve 0;");
        looks("bestToSteep() up to 30", full, full::bestToSteep, full.fronts() - 2);
        WeatherTea held = Tea.strong(22, "front a is warm force 7 at 0 for 1; front b is warm force 9 at 0 for 1; guest g at 0 likes 30 to 30 nerve 0;");
        looks("bestToSteep() held at 30", held, held::bestToSteep, held.fronts() - 1);
    }

    /** Promise 36: "Returns this one, of several the smallest number; -1 if none is over the pot (nothing is changed)." */
    static void bestToSteepTellsTheSmallestNumber() {
        WeatherTea none = new WeatherTea();
        looks("bestToSteep() of a new pot", none, none::bestToSteep, -1);
        WeatherTea tea = Tea.brewed(tenFronts());
        for (int i = 0; i < 10; i++) {
            looks("bestToSteep() without guests " + i, tea, tea::bestToSteep, i);
            tea.steep(i);
        }
        looks("bestToSteep() of all steeped", tea, tea::bestToSteep, -1);
        WeatherTea later = Tea.brewed("front a is warm force 1 at 1 for 1; front b is warm force 1 at 2 for 2; front c is warm force 2 at 2 for 1;"
                + "guest g at 0 likes 1 to 2 nerve 0;");
        int[] best = {-1, 0, 1, 1, -1, -1};
        for (int hour = 0; hour < best.length; hour++) {
            looks("bestToSteep() at " + hour, later, later::bestToSteep, best[hour]);
            later.passHours(1);
        }
        WeatherTea last = Tea.brewed(tenFronts() + "guest g at 0 likes 9 to 9 nerve 0;");
        looks("bestToSteep() of the one of force 9", last, last::bestToSteep, 8);
    }

    /** Promise 37: "Returns the mean force of fronts over the pot; 0 without any." */
    static void meanForceIsOfFrontsOverThePot() {
        due.isDouble("meanForce() of a new pot", new WeatherTea().meanForce(), 0.0);
        due.isDouble("meanForce() of fronts to come", Tea.brewed("front a is warm force 9 at 1 for 1;").meanForce(), 0.0);
        due.isDouble("meanForce() of one", Tea.brewed("front a is cold force 9 at 0 for 1;").meanForce(), 9.0);
        due.isDouble("meanForce() of ten", Tea.brewed(tenFronts()).meanForce(), 4.6);
        WeatherTea tea = Tea.brewed("front a is warm force 1 at 0 for 1; front b is cold force 1 at 0 for 2; front c is warm force 2 at 0 for 3; front d is warm force 9 at 2 for 1;");
        due.isDouble("meanForce() of three", tea.meanForce(), 4.0 / 3);
        tea.steep(0);
        due.isDouble("meanForce() of two", tea.meanForce(), 1.5);
        tea.passHours(2);
        due.isDouble("meanForce() with the one that came", tea.meanForce(), 5.5);
        tea.passHours(1);
        due.isDouble("meanForce() of none any more", tea.meanForce(), 0.0);
    }

    /** Promise 38: "A number d starts with 1033; for each of the following numbers x, d becomes d * 31 + x, which wraps around as a 64-bit integer" */
    static void theDigestWrapsAround() {
        WeatherTea[] teas = {new WeatherTea(), Tea.brewed(tenFronts()), Tea.brewed(tenGuests(11)), Tea.brewed(tenFronts() + tenGuests(11) + "lemon;")};
        for (WeatherTea tea : teas) {
            for (int hour = 0; hour < 10; hour++) {
                due.is("digest() of " + tea.fronts() + " and " + tea.guests() + " at " + hour, tea.digest(), digestOf(tea));
                if (hour == 0 && tea.fronts() > 0) {
                    tea.steep(0);
                    due.is("digest() behind steep(0)", tea.digest(), digestOf(tea));
                }
                if (hour == 0 && tea.guests() > 0) {
                    tea.serve(9);
                    due.is("digest() behind serve(9)", tea.digest(), digestOf(tea));
                }
                tea.passHours(1);
            }
        }
        due.is("a digest of 74 numbers wraps around", Math.abs(digestOf(teas[3])) > 1L << 50, true);
    }

    /** The digest as the document tells it, with numbers that have no bound till its end. */
    private static long digestOf(WeatherTea tea) {
        java.math.BigInteger d = java.math.BigInteger.valueOf(1033);
        java.util.List<Integer> numbers = new java.util.ArrayList<>();
        for (int number : new int[] {tea.fronts(), tea.guests(), tea.hour(), tea.warmth(), tea.strength(), tea.charge(), tea.lemons(), tea.saucers(),
            tea.coins(), tea.storms(), tea.seatedGuests(), tea.served(), tea.stormed(), tea.bestToSteep()}) {
            numbers.add(number);
        }
        for (int i = 0; i < tea.fronts(); i++) {
            numbers.add(ask(tea.isOver(i)));
            numbers.add(ask(tea.isSteeped(i)));
        }
        for (int i = 0; i < tea.guests(); i++) {
            numbers.add(ask(tea.isSeated(i)));
            numbers.add(ask(tea.isContent(i)));
            numbers.add(ask(tea.wasServed(i)));
            numbers.add(ask(tea.wasStormed(i)));
        }
        for (int number : numbers) {
            d = d.multiply(java.math.BigInteger.valueOf(31)).add(java.math.BigInteger.valueOf(number));
        }
        return d.longValue();
    }

    /** Promise 38: "(whether something is so counts 1 or 0)" */
    static void theDigestOfANewPot() {
        long d = 1033;
        for (int x : new int[] {0, 0, 0, 20, 0, 0, 3, 3, 0, 0, 0, 0, 0, -1}) {
            d = d * 31 + x;
        }
        WeatherTea none = new WeatherTea();
        looks("digest() of a new pot", none, none::digest, d);
        // One front over the pot, one guest who is seated and content.
        d = 1033;
        for (int x : new int[] {1, 1, 0, 20, 0, 0, 3, 3, 0, 0, 1, 0, 0, 0, 1, 0, 1, 1, 0, 0}) {
            d = d * 31 + x;
        }
        WeatherTea one = Tea.brewed("front a is warm force 1 at 0 for 1; guest g at 0 likes 0 to 0 nerve 0;");
        looks("digest() of one and one", one, one::digest, d);
    }

    // ---- all calls

    /** Promises 1 to 38: "An object is used for at most 512 calls after it has been made" */
    static void theLastOf512CallsIsAnswered() {
        WeatherTea hours = new WeatherTea();
        for (int call = 1; call < 512; call++) {
            hours.passHours(30);
        }
        due.is("hour() as the 512th call", hours.hour(), 511 * 30);
        WeatherTea told = new WeatherTea();
        for (int call = 1; call <= 511; call += 7) {
            // "lemon when hour=0;  " six times, which all can be done but for the lemons.
            for (int i = 1; i <= 6; i++) {
                due.is("feed()", told.feed(0x6c656d6f, 0x6e207768, 0x656e2068, 0x6f75723d, 0x303b2020), 20L * i);
            }
            due.is("teach() as call " + (call + 6), told.teach(), 0);
        }
        due.is("passHours() as the 512th call", told.passHours(30), 1);
        WeatherTea refused = new WeatherTea();
        for (int call = 1; call < 512; call++) {
            boolean threw = false;
            try {
                refused.steep(0);
            } catch (IndexOutOfBoundsException e) {
                threw = true;
            }
            due.is("steep(0) as call " + call, threw, true);
        }
        due.is("lemon() as the 512th call", refused.lemon(), 6);
    }
}
