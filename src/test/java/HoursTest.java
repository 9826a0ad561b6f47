/** Promises 32 to 38: hours and what would be. */
public final class HoursTest {

    private static final Due due = new Due("HoursTest");

    public static void main(String[] args) {
        passHours();
        coinsAfter();
        hoursUntilStorm();
        hoursUntilServed();
        bestToSteep();
        meanForce();
        digest();
        due.end();
    }

    private static void passHours() {
        WeatherTea tea = Tea.brewed("front a is warm force 6 at 1 for 4; front b is cold force 6 at 1 for 4;");
        due.is("passHours(1)", tea.passHours(1), 0);
        due.is("passHours(30)", tea.passHours(30), 2);
        due.is("hour()", tea.hour(), 31);
        due.is("storms()", tea.storms(), 2);
        due.is("passHours() counts only its own storms", tea.passHours(2), 0);
        due.refuses("passHours(0)", tea, IllegalArgumentException.class, () -> tea.passHours(0));
        due.refuses("passHours(31)", tea, IllegalArgumentException.class, () -> tea.passHours(31));
        due.refuses("passHours(-1)", tea, IllegalArgumentException.class, () -> tea.passHours(-1));
        due.refuses("passHours(MIN)", tea, IllegalArgumentException.class, () -> tea.passHours(Integer.MIN_VALUE));
        due.refuses("passHours(MAX)", tea, IllegalArgumentException.class, () -> tea.passHours(Integer.MAX_VALUE));
    }

    /** Nothing that only looks ahead may change anything. */
    private static long unchanged(String what, WeatherTea tea, Due.Call call) {
        String before = Tea.state(tea);
        long answer = call.answer();
        due.is(what + " changes nothing", Tea.state(tea).equals(before), true);
        return answer;
    }

    private static void coinsAfter() {
        WeatherTea tea = Tea.brewed("front a is warm force 6 at 1 for 4; guest g at 0 likes 0 to 9 nerve 0; guest h at 2 likes 2 to 9 nerve 0; guest i at 29 likes 0 to 9 nerve 0;"
                + "steep a when hour = 2; serve h; serve g when hour = 4; serve i when hour = 29; front z is warm force 2 at 28 for 3; steep z;");
        due.is("coinsAfter(1)", unchanged("coinsAfter(1)", tea, () -> tea.coinsAfter(1)), 0);
        due.is("coinsAfter(3)", tea.coinsAfter(3), 6);
        due.is("coinsAfter(4)", tea.coinsAfter(4), 6);
        due.is("coinsAfter(5)", unchanged("coinsAfter(5)", tea, () -> tea.coinsAfter(5)), 9);
        due.is("coinsAfter(29)", tea.coinsAfter(29), 9);
        due.is("coinsAfter(30)", unchanged("coinsAfter(30)", tea, () -> tea.coinsAfter(30)), 11);
        tea.passHours(5);
        due.is("coinsAfter() tells all coins", tea.coinsAfter(1), 9);
        // All that is in the pot counts for what would be: also the warmth, lemons, saucers and who was stormed.
        WeatherTea cold = Tea.brewed("front a is warm force 6 at 0 for 1; guest g at 0 likes 1 to 9 nerve 12; serve g when charge < 12 and hour > 0;"
                + "serve g when lemons = 1 and saucers = 2 and hour > 0 and storms = 1;");
        cold.steep(0);
        due.is("coinsAfter() of warm tea", cold.coinsAfter(2), 6);
        cold.heat(12);
        due.is("coinsAfter() of cold tea", cold.coinsAfter(3), 0);
        due.is("coinsAfter() of tea that comes to 15", cold.coinsAfter(4), 6);
        WeatherTea used = Tea.brewed("front a is warm force 6 at 0 for 1; guest g at 0 likes 1 to 9 nerve 20; serve g when lemons = 1 and saucers = 2;");
        used.steep(0);
        due.is("coinsAfter() with all lemons", used.coinsAfter(5), 0);
        used.lemon();
        used.lemon();
        due.is("coinsAfter() with all saucers", used.coinsAfter(5), 0);
        used.saucer();
        due.is("coinsAfter() with what there is", used.coinsAfter(5), 6);
        WeatherTea stormy = Tea.brewed("front a is warm force 6 at 0 for 1; guest g at 0 likes 1 to 9 nerve 2; serve g when hour > 0;");
        stormy.steep(0);
        stormy.lemon();
        due.is("coinsAfter() without a storm", stormy.coinsAfter(5), 6);
        stormy.lemon();
        due.is("coinsAfter() with a storm to come", stormy.coinsAfter(5), 0);
        stormy.saucer();
        due.is("coinsAfter() with the storm put off", stormy.coinsAfter(5), 6);
        stormy.lemon();
        stormy.passHours(1);
        due.is("a storm came", stormy.wasStormed(0), true);
        due.is("coinsAfter() behind a storm", stormy.coinsAfter(5), 0);
        due.is("hoursUntilServed() of a stormed one", stormy.hoursUntilServed(0), -1);
        due.refuses("coinsAfter(0)", tea, IllegalArgumentException.class, () -> tea.coinsAfter(0));
        due.refuses("coinsAfter(31)", tea, IllegalArgumentException.class, () -> tea.coinsAfter(31));
        due.refuses("coinsAfter(-1)", tea, IllegalArgumentException.class, () -> tea.coinsAfter(-1));
        due.refuses("coinsAfter(MAX)", tea, IllegalArgumentException.class, () -> tea.coinsAfter(Integer.MAX_VALUE));
    }

    private static void hoursUntilStorm() {
        WeatherTea tea = new WeatherTea();
        due.is("hoursUntilStorm() without charge", unchanged("hoursUntilStorm()", tea, tea::hoursUntilStorm), -1);
        tea.lemon();
        tea.lemon();
        due.is("hoursUntilStorm() at 12", unchanged("hoursUntilStorm()", tea, tea::hoursUntilStorm), 1);
        tea.passHours(1);
        due.is("hoursUntilStorm() behind a storm", tea.hoursUntilStorm(), -1);
        WeatherTea last = Tea.brewed("lemon when hour >= 58;");
        due.is("hoursUntilStorm() of 60", last.hoursUntilStorm(), 60);
        WeatherTea late = Tea.brewed("lemon when hour >= 59;");
        due.is("hoursUntilStorm() of 61", late.hoursUntilStorm(), -1);
        late.passHours(1);
        due.is("hoursUntilStorm() an hour later", late.hoursUntilStorm(), 60);
        late.passHours(30);
        due.is("hoursUntilStorm() later", late.hoursUntilStorm(), 30);
    }

    private static void hoursUntilServed() {
        WeatherTea tea = Tea.brewed("guest g at 0 likes 0 to 9 nerve 0; guest h at 59 likes 0 to 9 nerve 0; guest i at 60 likes 0 to 9 nerve 0; guest j at 3 likes 5 to 9 nerve 0;"
                + "serve g when hour = 1; serve h; serve i; serve j;");
        due.is("hoursUntilServed(0)", unchanged("hoursUntilServed(0)", tea, () -> tea.hoursUntilServed(0)), 2);
        due.is("hoursUntilServed(1) of 60", unchanged("hoursUntilServed(1)", tea, () -> tea.hoursUntilServed(1)), 60);
        due.is("hoursUntilServed(2) of 61", tea.hoursUntilServed(2), -1);
        due.is("hoursUntilServed(3) of one never content", tea.hoursUntilServed(3), -1);
        tea.passHours(1);
        due.is("hoursUntilServed(0) an hour later", tea.hoursUntilServed(0), 1);
        due.is("hoursUntilServed(2) an hour later", tea.hoursUntilServed(2), 60);
        tea.passHours(1);
        due.is("hoursUntilServed(0) of a served one", tea.hoursUntilServed(0), 0);
        WeatherTea hand = Tea.brewed("guest g at 0 likes 0 to 9 nerve 0;");
        due.is("hoursUntilServed(0) without orders", hand.hoursUntilServed(0), -1);
        hand.serve(0);
        due.is("hoursUntilServed(0) served by hand", hand.hoursUntilServed(0), 0);
        due.refuses("hoursUntilServed(1)", hand, IndexOutOfBoundsException.class, () -> hand.hoursUntilServed(1));
        due.refuses("hoursUntilServed(-1)", hand, IndexOutOfBoundsException.class, () -> hand.hoursUntilServed(-1));
    }

    private static void bestToSteep() {
        WeatherTea tea = Tea.brewed("front a is warm force 1 at 0 for 3; front b is cold force 4 at 0 for 9; front c is warm force 4 at 0 for 9; front d is warm force 7 at 1 for 9;"
                + "guest g at 0 likes 3 to 4 nerve 0; guest h at 0 likes 4 to 9 nerve 0; guest i at 0 likes 7 to 9 nerve 0; guest k at 0 likes 7 to 30 nerve 0;");
        due.is("bestToSteep(), the smaller number", unchanged("bestToSteep()", tea, tea::bestToSteep), 1);
        tea.passHours(1);
        due.is("bestToSteep(), the most guests", tea.bestToSteep(), 3);
        tea.steep(3);
        due.is("bestToSteep() of the rest", tea.bestToSteep(), 0);
        tea.heat(3);
        due.is("bestToSteep() of cold tea", tea.bestToSteep(), 0);
        tea.steep(0);
        due.is("bestToSteep() without the steeped one", tea.bestToSteep(), 1);
        tea.passHours(9);
        due.is("bestToSteep() without any", tea.bestToSteep(), -1);
        due.is("bestToSteep() of a new one", new WeatherTea().bestToSteep(), -1);
        WeatherTea full = Tea.brewed("front a is warm force 9 at 0 for 9; front b is warm force 9 at 0 for 9; front c is warm force 9 at 0 for 9; front d is warm force 1 at 0 for 9; front e is warm force 9 at 0 for 9;"
                + "guest g at 0 likes 30 to 30 nerve 0;");
        full.steep(0);
        full.steep(1);
        full.steep(2);
        due.is("bestToSteep() is held at 30", full.bestToSteep(), 4);
    }

    private static void meanForce() {
        due.isDouble("meanForce() of a new one", new WeatherTea().meanForce(), 0.0);
        WeatherTea tea = Tea.brewed("front a is warm force 1 at 0 for 3; front b is cold force 4 at 0 for 9; front c is warm force 5 at 0 for 9; front d is warm force 9 at 1 for 9;");
        due.isDouble("meanForce() of three", tea.meanForce(), 10.0 / 3);
        tea.steep(0);
        due.isDouble("meanForce() of two", tea.meanForce(), 4.5);
        tea.passHours(1);
        due.isDouble("meanForce() with the next one", tea.meanForce(), 6.0);
        tea.passHours(10);
        due.isDouble("meanForce() without any", tea.meanForce(), 0.0);
    }

    private static void digest() {
        // A new object: 1033, then 14 numbers 0 0 0 20 0 0 3 3 0 0 0 0 0 -1.
        long d = 1033;
        for (int x : new int[] {0, 0, 0, 20, 0, 0, 3, 3, 0, 0, 0, 0, 0, -1}) {
            d = d * 31 + x;
        }
        due.is("digest() of a new one", new WeatherTea().digest(), d);
        WeatherTea tea = Tea.brewed("front a is warm force 6 at 0 for 4; front b is cold force 6 at 0 for 4; guest g at 0 likes 0 to 9 nerve 0; guest h at 1 likes 0 to 9 nerve 9;");
        tea.steep(0);
        tea.serve(0);
        tea.lemon();
        tea.passHours(1);
        d = 1033;
        for (int x : new int[] {2, 2, 1, 14, 3, 6, 2, 3, 6, 0, 1, 1, 0, 1, 0, 1, 1, 0, 0, 0, 1, 0, 1, 0, 0, 0}) {
            d = d * 31 + x;
        }
        due.is("digest()", unchanged("digest()", tea, tea::digest), d);
        due.is("digest() again", tea.digest(), d);
        WeatherTea stormy = Tea.brewed("front a is cold force 3 at 1 for 4; guest g at 0 likes 0 to 9 nerve 0; guest h at 0 likes 0 to 9 nerve 20;");
        stormy.lemon();
        stormy.lemon();
        stormy.lemon();
        stormy.passHours(1);
        stormy.saucer();
        d = 1033;
        for (int x : new int[] {1, 2, 1, 20, 0, 1, 0, 2, 0, 1, 1, 0, 1, 0, 1, 0, 0, 0, 0, 1, 1, 1, 0, 0}) {
            d = d * 31 + x;
        }
        due.is("digest() behind a storm", stormy.digest(), d);
    }
}
