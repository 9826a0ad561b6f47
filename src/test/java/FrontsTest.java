/** Promises 19 to 22: what can be asked of fronts. */
public final class FrontsTest {

    private static final Due due = new Due("FrontsTest");

    public static void main(String[] args) {
        asked();
        comeAndGo();
        wrongNumbers();
        due.end();
    }

    private static void asked() {
        WeatherTea tea = Tea.brewed("front a is warm force 4 at 0 for 1; front b is cold force 9 at 60 for 12; front c is cold force 1 at 1 for 1;");
        due.is("isWarm(0)", tea.isWarm(0), true);
        due.is("isWarm(1)", tea.isWarm(1), false);
        due.is("isWarm(2)", tea.isWarm(2), false);
        due.is("forceOf(0)", tea.forceOf(0), 4);
        due.is("forceOf(1)", tea.forceOf(1), 9);
        due.is("forceOf(2)", tea.forceOf(2), 1);
        due.is("isSteeped(0) at first", tea.isSteeped(0), false);
        tea.steep(0);
        due.is("isSteeped(0)", tea.isSteeped(0), true);
        due.is("isOver(0) of a steeped one", tea.isOver(0), false);
        due.is("isSteeped(1)", tea.isSteeped(1), false);
        tea.passHours(3);
        due.is("isSteeped(0) later", tea.isSteeped(0), true);
        due.is("isSteeped(2) of one that went by", tea.isSteeped(2), false);
        due.is("forceOf(2) of one that went by", tea.forceOf(2), 1);
    }

    private static void comeAndGo() {
        WeatherTea tea = Tea.brewed("front a is warm force 4 at 0 for 1; front b is cold force 9 at 2 for 3; front c is cold force 1 at 60 for 12;");
        for (int hour = 0; hour < 80; hour++) {
            due.is("isOver(0) at " + hour, tea.isOver(0), hour < 1);
            due.is("isOver(1) at " + hour, tea.isOver(1), hour >= 2 && hour < 5);
            due.is("isOver(2) at " + hour, tea.isOver(2), hour >= 60 && hour < 72);
            tea.passHours(1);
        }
    }

    private static void wrongNumbers() {
        WeatherTea two = Tea.brewed("front a is warm force 4 at 0 for 1; front b is cold force 9 at 2 for 3; guest g at 0 likes 0 to 1 nerve 1;"
                + "guest h at 0 likes 0 to 1 nerve 1; guest i at 0 likes 0 to 1 nerve 1;");
        WeatherTea none = new WeatherTea();
        WeatherTea fewer = Tea.brewed("front a is warm force 4 at 0 for 1; front b is cold force 9 at 2 for 3;");
        Tea.teach(fewer, "front a is warm force 4 at 0 for 1;");
        WeatherTea[] teas = {two, two, two, two, none, none, fewer};
        int[] numbers = {2, -1, Integer.MAX_VALUE, Integer.MIN_VALUE, 0, -1, 1};
        for (int i = 0; i < teas.length; i++) {
            WeatherTea tea = teas[i];
            int n = numbers[i];
            due.refuses("isWarm(" + n + ")", tea, IndexOutOfBoundsException.class, () -> tea.isWarm(n) ? 1 : 0);
            due.refuses("forceOf(" + n + ")", tea, IndexOutOfBoundsException.class, () -> tea.forceOf(n));
            due.refuses("isOver(" + n + ")", tea, IndexOutOfBoundsException.class, () -> tea.isOver(n) ? 1 : 0);
            due.refuses("isSteeped(" + n + ")", tea, IndexOutOfBoundsException.class, () -> tea.isSteeped(n) ? 1 : 0);
            due.refuses("steep(" + n + ")", tea, IndexOutOfBoundsException.class, () -> tea.steep(n));
        }
    }
}
