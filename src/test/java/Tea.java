import java.nio.charset.StandardCharsets;

/** What the tests do with a WeatherTea more than once. */
final class Tea {

    private Tea() {
    }

    /** Puts a text behind what stands on the tape; a text has at most the bytes that go in whole feeds. */
    static void write(WeatherTea tea, String text) {
        byte[] bytes = text.getBytes(StandardCharsets.ISO_8859_1);
        int length = 0;
        for (int at = 0; at < bytes.length; at += 20) {
            length = tea.feed(four(bytes, at), four(bytes, at + 4), four(bytes, at + 8), four(bytes, at + 12),
                    four(bytes, at + 16));
        }
        if (bytes.length % 20 != 0) {
            tea.trim(length - 20 + bytes.length % 20);
        }
    }

    private static int four(byte[] bytes, int at) {
        int number = 0;
        for (int i = at; i < at + 4; i++) {
            number = number << 8 | (i < bytes.length ? bytes[i] & 255 : 32);
        }
        return number;
    }

    static int teach(WeatherTea tea, String text) {
        write(tea, text);
        return tea.teach();
    }

    /** A pot that was taught a plan, which must be one. */
    static WeatherTea brewed(String text) {
        WeatherTea tea = new WeatherTea();
        int error = teach(tea, text);
        if (error != 0) {
            throw new AssertionError("error " + error + " at " + tea.errorAt() + ": " + text);
        }
        return tea;
    }

    /** All that can be asked without changing anything. */
    static String state(WeatherTea tea) {
        StringBuilder all = new StringBuilder();
        int[] numbers = {tea.errorAt(), tea.fronts(), tea.guests(), tea.hour(), tea.warmth(), tea.strength(),
            tea.charge(), tea.lemons(), tea.saucers(), tea.coins(), tea.storms(), tea.seatedGuests(), tea.served(),
            tea.stormed(), tea.bestToSteep(), tea.hoursUntilStorm(), tea.coinsAfter(1), tea.coinsAfter(30)};
        for (int number : numbers) {
            all.append(number).append(' ');
        }
        all.append(tea.meanForce()).append(' ').append(tea.digest());
        for (int i = 0; i < tea.fronts(); i++) {
            all.append(" f").append(tea.isWarm(i)).append(tea.forceOf(i)).append(tea.isOver(i)).append(tea.isSteeped(i));
        }
        for (int i = 0; i < tea.guests(); i++) {
            all.append(" g").append(tea.isSeated(i)).append(tea.isContent(i)).append(tea.wasServed(i))
                    .append(tea.wasStormed(i)).append(tea.hoursUntilServed(i));
        }
        return all.toString();
    }

    static String times(int n, String text) {
        return text.repeat(n);
    }
}
