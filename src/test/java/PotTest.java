/** Promises 6 to 18, and how an hour goes: warmth, charge, storms, and what words stand for in tests. */
public final class PotTest {

    private static final Due due = new Due("PotTest");

    public static void main(String[] args) {
        counts();
        warmth();
        charge();
        storm();
        orders();
        values();
        arithmetic();
        logic();
        due.end();
    }

    private static void counts() {
        WeatherTea tea = Tea.brewed("front a is warm force 4 at 0 for 1; front b is cold force 5 at 1 for 2;"
                + "guest x at 0 likes 0 to 30 nerve 0; guest y at 0 likes 0 to 30 nerve 20; guest z at 1 likes 9 to 9 nerve 0;");
        due.is("fronts()", tea.fronts(), 2);
        due.is("guests()", tea.guests(), 3);
        due.is("hour()", tea.hour(), 0);
        due.is("seatedGuests()", tea.seatedGuests(), 2);
        tea.steep(0);
        due.is("strength()", tea.strength(), 4);
        tea.serve(1);
        due.is("served()", tea.served(), 1);
        due.is("coins()", tea.coins(), 4);
        due.is("seatedGuests() behind serve", tea.seatedGuests(), 1);
        tea.lemon();
        tea.lemon();
        due.is("charge()", tea.charge(), 12);
        due.is("lemons()", tea.lemons(), 1);
        tea.passHours(1);
        due.is("storms()", tea.storms(), 1);
        due.is("stormed()", tea.stormed(), 1);
        due.is("seatedGuests() behind a storm", tea.seatedGuests(), 1);
        due.is("hour() later", tea.hour(), 1);
        due.is("warmth()", tea.warmth(), 20);
        tea.saucer();
        due.is("saucers()", tea.saucers(), 2);
        tea.passHours(30);
        tea.passHours(30);
        due.is("hour() goes on", tea.hour(), 61);
        due.is("fronts() stays", tea.fronts(), 2);
        due.is("guests() stays", tea.guests(), 3);
        due.is("served() stays", tea.served(), 1);
        due.is("stormed() stays", tea.stormed(), 1);
        due.is("seatedGuests() at the end", tea.seatedGuests(), 0);
    }

    private static int warmthBehind(String plan, int from) {
        WeatherTea tea = Tea.brewed(plan);
        tea.heat(from);
        tea.passHours(1);
        return tea.warmth();
    }

    private static void warmth() {
        String warm = "front a is warm force 9 at 0 for 3;";
        String cold = "front b is cold force 7 at 0 for 3;";
        due.is("warm", warmthBehind(warm, 20), 29);
        due.is("cold", warmthBehind(cold, 20), 13);
        due.is("both at once", warmthBehind(warm + cold, 20), 22);
        due.is("held at 40", warmthBehind(warm, 35), 40);
        due.is("held at 0", warmthBehind(cold, 3), 0);
        due.is("both at once, not one behind the other, above", warmthBehind(warm + cold, 38), 40);
        due.is("both at once, near 40", warmthBehind("front a is warm force 9 at 0 for 3; front b is cold force 9 at 0 for 3;", 39), 39);
        due.is("both at once, near 0", warmthBehind("front b is cold force 9 at 0 for 3; front a is warm force 9 at 0 for 3;", 2), 2);
        due.is("two of a kind", warmthBehind(warm + "front c is warm force 4 at 0 for 1;", 20), 33);
        due.is("none, from above", warmthBehind("", 40), 39);
        due.is("none, from below", warmthBehind("", 0), 1);
        due.is("none, at 20", warmthBehind("", 20), 20);
        due.is("none, at 21", warmthBehind("", 21), 20);
        due.is("none, at 19", warmthBehind("", 19), 20);
        due.is("one of force 1, away from 20", warmthBehind("front a is warm force 1 at 0 for 3;", 30), 31);
        due.is("two that are even, away from 20", warmthBehind("front a is warm force 1 at 0 for 3; front b is cold force 1 at 0 for 3;", 30), 30);
        due.is("a front that has not come", warmthBehind("front a is warm force 9 at 1 for 3;", 10), 11);
        WeatherTea steeped = Tea.brewed(warm);
        steeped.steep(0);
        steeped.heat(30);
        steeped.passHours(1);
        due.is("a steeped front blows no more", steeped.warmth(), 29);
    }

    private static void charge() {
        WeatherTea both = Tea.brewed("front a is warm force 3 at 0 for 9; front b is cold force 5 at 0 for 9; front c is warm force 1 at 0 for 9;");
        both.passHours(1);
        due.is("the lesser force of both kinds", both.charge(), 4);
        WeatherTea other = Tea.brewed("front a is warm force 9 at 0 for 9; front b is cold force 5 at 0 for 9;");
        other.passHours(1);
        due.is("the lesser force, cold", other.charge(), 5);
        WeatherTea one = Tea.brewed("front a is warm force 9 at 0 for 9;");
        one.passHours(3);
        due.is("none of one kind", one.charge(), 0);
        WeatherTea most = Tea.brewed("front a is warm force 9 at 0 for 1; front b is cold force 9 at 0 for 1; front c is warm force 9 at 0 for 1; front d is cold force 9 at 0 for 1;");
        most.lemon();
        most.lemon();
        most.lemon();
        due.is("charge of three lemons", most.charge(), 18);
        most.passHours(1);
        due.is("at most 30, and a storm of it", most.charge(), 18);
        most.passHours(1);
        due.is("one storm an hour", most.storms(), 2);
        due.is("6 are left", most.charge(), 6);
        most.passHours(5);
        due.is("no storm below 12", most.storms(), 2);
        due.is("charge stays", most.charge(), 6);
    }

    private static void storm() {
        WeatherTea tea = Tea.brewed("front a is warm force 9 at 0 for 1; front b is warm force 4 at 0 for 1; front c is cold force 9 at 5 for 1;"
                + "guest w at 0 likes 0 to 0 nerve 11; guest x at 0 likes 0 to 0 nerve 12; guest y at 0 likes 0 to 0 nerve 13; guest z at 1 likes 0 to 0 nerve 0;");
        tea.steep(0);
        tea.steep(1);
        tea.lemon();
        tea.lemon();
        due.is("a storm at 12", tea.passHours(1), 1);
        due.is("less nerve than the charge", tea.wasStormed(0), true);
        due.is("as much nerve as the charge", tea.wasStormed(1), false);
        due.is("more nerve than the charge", tea.wasStormed(2), false);
        due.is("not seated yet", tea.wasStormed(3), false);
        due.is("comes behind the storm", tea.isSeated(3), true);
        due.is("the stormed one leaves", tea.isSeated(0), false);
        due.is("half of the strength, cut", tea.strength(), 6);
        due.is("the charge is 12 less", tea.charge(), 0);
        WeatherTea calm = Tea.brewed("");
        calm.lemon();
        calm.lemon();
        calm.saucer();
        calm.lemon();
        due.is("13", calm.charge(), 13);
        calm.saucer();
        due.is("no storm at 8", calm.passHours(4), 0);
        WeatherTea eleven = Tea.brewed("front a is warm force 5 at 0 for 1; front b is cold force 5 at 0 for 1;");
        eleven.lemon();
        due.is("no storm at 11", eleven.passHours(3), 0);
        due.is("charge 11", eleven.charge(), 11);
        // Who was served is seated no more, and so not stormed.
        WeatherTea served = Tea.brewed("guest w at 0 likes 0 to 0 nerve 0;");
        served.serve(0);
        served.lemon();
        served.lemon();
        served.passHours(1);
        due.is("a served one is not stormed", served.stormed(), 0);
        due.is("the storm came", served.storms(), 1);
    }

    private static void orders() {
        WeatherTea inOrder = Tea.brewed("front f is warm force 5 at 0 for 2; guest g at 0 likes 5 to 9 nerve 0; serve g; steep f; serve g when strength = 5;");
        inOrder.passHours(1);
        due.is("orders in their order", inOrder.coins(), 5);
        due.is("served by order", inOrder.wasServed(0), true);
        due.is("steeped by order", inOrder.isSteeped(0), true);
        due.is("steeped ahead of the weather", inOrder.warmth(), 20);
        WeatherTea all = Tea.brewed("lemon; lemon; lemon; lemon; saucer; saucer; saucer; saucer when saucers = 0;");
        all.passHours(1);
        due.is("orders that cannot be done are passed over", all.lemons() + all.saucers(), 0);
        due.is("18 less 15", all.charge(), 3);
        WeatherTea test = Tea.brewed("lemon when hour = 1; lemon when lemons = 2; saucer when charge = 12;");
        test.passHours(1);
        due.is("a test that does not hold", test.lemons(), 3);
        test.passHours(1);
        due.is("a test is looked at in its turn", test.lemons(), 1);
        due.is("so is the next one", test.saucers(), 2);
        due.is("charge behind them", test.charge(), 7);
        WeatherTea cold = Tea.brewed("guest g at 0 likes 0 to 9 nerve 0; serve g;");
        cold.heat(14);
        cold.passHours(1);
        due.is("an order does not serve who is not content", cold.served(), 0);
        cold.passHours(1);
        due.is("but does an hour later", cold.served(), 1);
        WeatherTea late = Tea.brewed("front f is warm force 5 at 2 for 1; steep f;");
        late.passHours(2);
        due.is("a front that is not over the pot is not steeped", late.strength(), 0);
        late.passHours(1);
        due.is("one that is over the pot is", late.strength(), 5);
        StringBuilder sixteen = new StringBuilder("front f is warm force 5 at 0 for 9;");
        for (int i = 0; i < 15; i++) {
            sixteen.append("lemon when 1 = 2;");
        }
        WeatherTea last = Tea.brewed(sixteen + "steep f;");
        last.passHours(1);
        due.is("the 16th order", last.strength(), 5);
        WeatherTea never = Tea.brewed(sixteen + "steep f when hour = 1;");
        never.passHours(1);
        due.is("the 16th order, with a test that does not hold", never.strength(), 0);
        never.passHours(1);
        due.is("the 16th order, with a test that holds", never.strength(), 5);
    }

    /** Whether a test holds in a pot with known numbers. */
    private static boolean holds(String test) {
        WeatherTea tea = Tea.brewed("front f is warm force 5 at 0 for 9; front h is cold force 7 at 2 for 3; front k is cold force 2 at 9 for 1;"
                + "guest g at 0 likes 5 to 9 nerve 20; guest o at 9 likes 0 to 30 nerve 20; guest x at 0 likes 6 to 9 nerve 20;"
                + "saucer when hour = 3 and [" + test + "];");
        tea.heat(24);
        tea.passHours(1);
        tea.lemon();
        tea.lemon();
        tea.passHours(1);
        tea.steep(0);
        tea.lemon();
        tea.saucer();
        tea.passHours(1);
        // Now: hour 3, strength 5, charge 1, no lemons, 2 saucers, one storm; warmth told below.
        tea.heat(27);
        int before = tea.saucers();
        tea.passHours(1);
        return tea.saucers() < before;
    }

    private static void yes(String test) {
        due.is(test, holds(test), true);
    }

    private static void no(String test) {
        due.is(test, holds(test), false);
    }

    private static void values() {
        yes("hour = 3");
        yes("warmth = 27");
        yes("strength = 5");
        yes("charge = 1");
        yes("lemons = 0");
        yes("saucers = 2");
        yes("storms = 1");
        yes("force of f = 5");
        yes("force of h = 7");
        yes("force of k = 2");
        no("over f");
        yes("over h");
        no("over k");
        yes("seated g");
        no("seated o");
        yes("content g");
        no("content x");
        no("content o");
        no("hour = 2");
        no("force of f = 7");
        yes("000010 = 10");
    }

    private static void arithmetic() {
        yes("1 + 2 * 3 = 7");
        yes("(1 + 2) * 3 = 9");
        yes("10 - 3 - 2 = 5");
        yes("100 / 10 / 5 = 2");
        yes("100 / 10 * 5 = 50");
        yes("7 / 2 = 3");
        yes("-7 / 2 = -3");
        yes("7 / -2 = -3");
        yes("-7 / -2 = 3");
        yes("7 / 0 = 0");
        yes("0 / 0 = 0");
        yes("-7 / lemons = 0");
        yes("1 - -1 = 2");
        yes("--3 = 3");
        yes("-3 + 5 = 2");
        yes("-(3 + 5) = -8");
        yes("2 - 3 * 4 + 1 = -9");
        yes("min(3, 4) = 3");
        yes("min(4, 3) = 3");
        yes("max(3, 4) = 4");
        yes("max(-3, -4) = -3");
        yes("min(-3, max(-5, -4)) = -4");
        yes("max(1 + 1, 1) * 3 = 6");
        // 46341 * 46341 is more than 2147483647.
        yes("46341 * 46341 < 0");
        yes("46341 * 46341 / 10000 = -214747");
        yes("46341 * 46341 + 214747 * 10000 = -9015");
        yes("65536 * 32768 < 0");
        yes("65536 * 32768 = -(65536 * 32768)");
        yes("65536 * 32768 / -1 = 65536 * 32768");
        yes("65536 * 32768 - 1 > 0");
        yes("65536 * 65536 = 0");
        yes("1 < 2");
        no("2 < 2");
        no("2 > 2");
        yes("3 > 2");
        yes("2 = 2");
        no("2 = 3");
        yes("2 <= 2");
        yes("1 <= 2");
        no("3 <= 2");
        yes("2 >= 2");
        yes("3 >= 2");
        no("1 >= 2");
        yes("-1 < 1");
        yes("strength + charge * saucers - force of h = 0");
    }

    private static void logic() {
        yes("1 = 1 and 2 = 2");
        no("1 = 1 and 2 = 3");
        no("1 = 2 and 2 = 2");
        yes("1 = 2 or 2 = 2");
        yes("1 = 1 or 2 = 3");
        no("1 = 2 or 2 = 3");
        yes("1 = 1 or 1 = 1 and 1 = 2");
        no("[1 = 1 or 1 = 1] and 1 = 2");
        yes("1 = 2 and 1 = 2 or 1 = 1");
        no("1 = 2 and [1 = 2 or 1 = 1]");
        yes("not 1 = 2 and 1 = 1");
        no("not 1 = 1 or 1 = 2");
        yes("not 1 = 2 or 1 = 1");
        no("not [1 = 2 or 1 = 1]");
        yes("not [1 = 2 and 1 = 1]");
        no("not 1 = 2 and 1 = 2");
        yes("not not 1 = 1");
        no("not not not 1 = 1");
        yes("not over f and over h");
        yes("seated g and content g and not content x");
        yes("1 = 2 or 1 = 3 or 1 = 1 and 2 = 2 and 3 = 3");
    }
}
