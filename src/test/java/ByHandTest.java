/** Promises 27 to 31: steep, lemon, saucer, serve and heat. */
public final class ByHandTest {

    private static final Due due = new Due("ByHandTest");

    public static void main(String[] args) {
        steep();
        lemon();
        saucer();
        serve();
        heat();
        due.end();
    }

    private static void steep() {
        WeatherTea tea = Tea.brewed("front a is warm force 9 at 0 for 2; front b is cold force 9 at 0 for 2; front c is warm force 9 at 0 for 2;"
                + "front d is warm force 2 at 0 for 2; front e is warm force 9 at 0 for 2; front f is warm force 1 at 5 for 2; front h is warm force 1 at 0 for 1;");
        due.is("steep(0)", tea.steep(0), 9);
        due.refuses("steep(0) again", tea, IllegalStateException.class, () -> tea.steep(0));
        due.is("steep(1) of a cold one", tea.steep(1), 18);
        due.is("steep(2)", tea.steep(2), 27);
        due.is("steep(3)", tea.steep(3), 29);
        due.is("steep(4), at most 30", tea.steep(4), 30);
        due.is("strength() then", tea.strength(), 30);
        due.refuses("steep(5) of one that has not come", tea, IllegalStateException.class, () -> tea.steep(5));
        tea.passHours(1);
        due.refuses("steep(6) of one that went", tea, IllegalStateException.class, () -> tea.steep(6));
        due.refuses("steep(7)", tea, IndexOutOfBoundsException.class, () -> tea.steep(7));
        tea.passHours(4);
        due.is("steep(5) of one that came", tea.steep(5), 30);
        due.is("isSteeped(5)", tea.isSteeped(5), true);
        due.is("steeping does not change the charge", tea.charge(), 0);
    }

    private static void lemon() {
        WeatherTea tea = new WeatherTea();
        due.is("lemon() 1", tea.lemon(), 6);
        due.is("lemon() 2", tea.lemon(), 12);
        due.is("lemon() 3", tea.lemon(), 18);
        due.is("lemons()", tea.lemons(), 0);
        due.refuses("lemon() 4", tea, IllegalStateException.class, tea::lemon);
        due.is("charge()", tea.charge(), 18);
        // Both kinds with a force of 27 bring the charge to 27, 30 at the most behind a storm of it.
        WeatherTea full = Tea.brewed(Tea.times(1, "front a is warm force 9 at 0 for 9; front b is warm force 9 at 0 for 9; front c is warm force 9 at 0 for 9;"
                + "front d is cold force 9 at 0 for 9; front e is cold force 9 at 0 for 9; front f is cold force 9 at 0 for 9;"));
        full.passHours(2);
        due.is("charge of strong winds", full.charge(), 18);
        due.is("lemon() at 18", full.lemon(), 24);
        due.is("lemon() at 24", full.lemon(), 30);
        due.is("lemon() at 30", full.lemon(), 30);
        due.is("lemons() then", full.lemons(), 0);
    }

    private static void saucer() {
        WeatherTea tea = new WeatherTea();
        tea.lemon();
        tea.lemon();
        due.is("saucer() 1", tea.saucer(), 7);
        due.is("saucer() 2", tea.saucer(), 2);
        due.is("saucer() 3, at least 0", tea.saucer(), 0);
        due.is("saucers()", tea.saucers(), 0);
        due.refuses("saucer() 4", tea, IllegalStateException.class, tea::saucer);
        due.is("lemons stay", tea.lemons(), 1);
    }

    private static void serve() {
        WeatherTea tea = Tea.brewed("front a is warm force 8 at 0 for 2; guest g at 0 likes 8 to 8 nerve 0; guest h at 0 likes 5 to 7 nerve 0; guest i at 0 likes 0 to 3 nerve 0;"
                + "guest j at 0 likes 0 to 3 nerve 0; guest k at 1 likes 0 to 9 nerve 0;");
        due.refuses("serve(0) of one who is not content", tea, IllegalStateException.class, () -> tea.serve(0));
        tea.steep(0);
        due.is("serve(0)", tea.serve(0), 8);
        due.is("strength() behind it", tea.strength(), 5);
        due.is("coins() behind it", tea.coins(), 8);
        due.refuses("serve(0) again", tea, IllegalStateException.class, () -> tea.serve(0));
        due.is("serve(1)", tea.serve(1), 5);
        due.is("strength() behind it", tea.strength(), 2);
        due.is("serve(2)", tea.serve(2), 2);
        due.is("strength() at least 0", tea.strength(), 0);
        tea.heat(14);
        due.refuses("serve(3) of cold tea", tea, IllegalStateException.class, () -> tea.serve(3));
        tea.heat(15);
        due.is("serve(3) of weak tea", tea.serve(3), 0);
        due.is("wasServed(3)", tea.wasServed(3), true);
        due.is("coins()", tea.coins(), 15);
        due.refuses("serve(4) of one who has not come", tea, IllegalStateException.class, () -> tea.serve(4));
        due.refuses("serve(5)", tea, IndexOutOfBoundsException.class, () -> tea.serve(5));
        due.is("served()", tea.served(), 4);
    }

    private static void heat() {
        WeatherTea tea = new WeatherTea();
        due.is("heat(0)", tea.heat(0), 20);
        due.is("warmth() 0", tea.warmth(), 0);
        due.is("heat(40)", tea.heat(40), 0);
        due.is("warmth() 40", tea.warmth(), 40);
        due.is("heat(40) again", tea.heat(40), 40);
        due.refuses("heat(41)", tea, IllegalArgumentException.class, () -> tea.heat(41));
        due.refuses("heat(-1)", tea, IllegalArgumentException.class, () -> tea.heat(-1));
        due.refuses("heat(MIN)", tea, IllegalArgumentException.class, () -> tea.heat(Integer.MIN_VALUE));
        due.refuses("heat(MAX)", tea, IllegalArgumentException.class, () -> tea.heat(Integer.MAX_VALUE));
        due.is("warmth() stays", tea.warmth(), 40);
    }
}
