import java.nio.charset.StandardCharsets;

/** What the tests do with a WeatherTea more than once. */
final class Tea {

    private Tea() {
    }

    /** Puts a text behind what stands on the tape; a text has at most the bytes that go in whole feeds. */
    static void write(WeatherTea tea, String text) {
        byte[] bytes = text.getBytes(StandardCharsets.ISO_8859_1);
        int length = 0;
        for (int at = 0; at < bytes.length; at += 20) {
            length = tea.feed(four(bytes, at), four(bytes, at + 4), four(bytes, at + 8), four(bytes, at + 12),
                    four(bytes, at + 16));
        }
        if (bytes.length % 20 != 0) {
            tea.trim(length - 20 + bytes.length % 20);
        }
    }

    private static int four(byte[] bytes, int at) {
        int number = 0;
        for (int i = at; i < at + 4; i++) {
            number = number << 8 | (i < bytes.length ? bytes[i] & 255 : 32);
        }
        return number;
    }

    static int teach(WeatherTea tea, String text) {
        write(tea, text);
        return tea.teach();
    }

    /** A pot that was taught a plan, which must be one. */
    static WeatherTea brewed(String text) {
        WeatherTea tea = new WeatherTea();
        int error = teach(tea, text);
        if (error != 0) {
            throw new AssertionError("error " + error + " at " + tea.errorAt() + ": " + text);
        }
        return tea;
    }

    /** All that can be asked without changing anything. */
    static String state(WeatherTea tea) {
        StringBuilder all = new StringBuilder();
        int[] numbers = {tea.errorAt(), tea.fronts(), tea.guests(), tea.hour(), tea.warmth(), tea.strength(),
            tea.charge(), tea.lemons(), tea.saucers(), tea.coins(), tea.storms(), tea.seatedGuests(), tea.served(),
            tea.stormed(), tea.bestToSteep(), tea.hoursUntilStorm(), tea.coinsAfter(1), tea.coinsAfter(30)};
        for (int number : numbers) {
            all.append(number).append(' ');
        }
        all.append(tea.meanForce()).append(' ').append(tea.digest());
        for (int i = 0; i < tea.fronts(); i++) {
            all.append(" f").append(tea.isWarm(i)).append(tea.forceOf(i)).append(tea.isOver(i)).append(tea.isSteeped(i));
        }
        for (int i = 0; i < tea.guests(); i++) {
            all.append(" g").append(tea.isSeated(i)).append(tea.isContent(i)).append(tea.wasServed(i))
                    .append(tea.wasStormed(i)).append(tea.hoursUntilServed(i));
        }
        return all.toString();
    }

    /** Fronts with a force of so much in all, named by a prefix and a number. */
    static String fronts(String prefix, String kind, int force, int at, int hours) {
        StringBuilder text = new StringBuilder();
        for (int left = force, i = 0; left > 0; left -= 9, i++) {
            text.append("front ").append(prefix).append(i).append(" is ").append(kind).append(" force ").append(Math.min(9, left))
                    .append(" at ").append(at).append(" for ").append(hours).append(';');
        }
        return text.toString();
    }

    /** A pot at the hour 0, with tea so strong; its first fronts, up to four, were steeped for that. */
    static WeatherTea strong(int strength, String plan) {
        String steeped = fronts("steeped", "warm", strength, 0, 1);
        WeatherTea tea = brewed(steeped + plan);
        for (int i = 0; i < (strength + 8) / 9; i++) {
            tea.steep(i);
        }
        return tea;
    }

    /** A pot at the hour 1, with a charge of 0 to 18; its first fronts, up to eight, have brought it and are gone. */
    static WeatherTea charged(int charge, String plan) {
        int brought = charge < 12 ? charge : charge + 12;
        WeatherTea tea = brewed(fronts("w", "warm", brought, 0, 1) + fronts("c", "cold", brought, 0, 1) + plan);
        tea.passHours(1);
        return tea;
    }

    /** Whether a test holds in a new pot. */
    static boolean holds(String test) {
        return holds("", test);
    }

    /** Whether a test holds in a pot with this plan, at the hour 0. */
    static boolean holds(String plan, String test) {
        WeatherTea tea = brewed(plan + "saucer when " + test + ";");
        tea.passHours(1);
        return tea.saucers() == 2;
    }

    static String times(int n, String text) {
        return text.repeat(n);
    }
}
