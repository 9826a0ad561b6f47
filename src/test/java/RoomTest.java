import java.lang.management.ManagementFactory;

/** All calls of a run live in one room: what the calls make is counted, and must be next to nothing. */
public final class RoomTest {

    private static final long MOST_BYTES_OF_AN_OBJECT = 60_000;
    private static final long MOST_BYTES_OF_CALLS = 4_000;

    public static void main(String[] args) {
        Due due = new Due("RoomTest");
        StringBuilder plan = new StringBuilder();
        for (int i = 0; i < 10; i++) {
            plan.append("front f").append(i).append(" is ").append(i % 2 == 0 ? "warm" : "cold").append(" force 3 at 2 for 5;");
            plan.append("guest g").append(i).append(" at 1 likes 0 to 9 nerve 5;");
        }
        plan.append("serve g1 when [hour > 3 or seated g2] and not -hour * min(3, 4) / 2 = 6;");
        byte[] bytes = plan.toString().getBytes(java.nio.charset.StandardCharsets.ISO_8859_1);
        // Classes are loaded by a first run, which is not counted.
        runs(new WeatherTea(), bytes);
        long before = allocated();
        WeatherTea tea = new WeatherTea();
        long made = allocated() - before;
        due.is("a new object is small: " + made, made < MOST_BYTES_OF_AN_OBJECT, true);
        before = allocated();
        long answers = runs(tea, bytes);
        long used = allocated() - before;
        due.is("the calls make nothing: " + used, used < MOST_BYTES_OF_CALLS, true);
        due.is("the calls were made", answers != 0, true);
        due.end();
    }

    private static long allocated() {
        return ((com.sun.management.ThreadMXBean) ManagementFactory.getThreadMXBean()).getThreadAllocatedBytes(
                Thread.currentThread().getId());
    }

    private static long runs(WeatherTea tea, byte[] plan) {
        long answers = 0;
        for (int run = 0; run < 20; run++) {
            for (int at = 0; at < plan.length; at += 20) {
                answers += tea.feed(four(plan, at), four(plan, at + 4), four(plan, at + 8), four(plan, at + 12), four(plan, at + 16));
            }
            answers += tea.teach() * 1000000L;
            for (int i = 0; i < 10; i++) {
                answers += tea.passHours(1) + tea.coinsAfter(30) + tea.hoursUntilStorm() + tea.hoursUntilServed(i)
                        + tea.bestToSteep() + tea.digest() + (long) tea.meanForce() + tea.seatedGuests();
            }
        }
        return answers;
    }

    private static int four(byte[] bytes, int at) {
        int number = 0;
        for (int i = at; i < at + 4; i++) {
            number = number << 8 | (i < bytes.length ? bytes[i] : 32);
        }
        return number;
    }
}
