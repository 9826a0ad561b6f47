/** Promises 23 to 26: what can be asked of guests. */
public final class GuestsTest {

    private static final Due due = new Due("GuestsTest");

    public static void main(String[] args) {
        comeAndGo();
        content();
        servedOrStormed();
        wrongNumbers();
        due.end();
    }

    private static void comeAndGo() {
        WeatherTea tea = Tea.brewed("guest a at 0 likes 1 to 9 nerve 0; guest b at 3 likes 1 to 9 nerve 0; guest c at 60 likes 1 to 9 nerve 0;");
        for (int hour = 0; hour < 80; hour++) {
            due.is("isSeated(0) at " + hour, tea.isSeated(0), hour < 8);
            due.is("isSeated(1) at " + hour, tea.isSeated(1), hour >= 3 && hour < 11);
            due.is("isSeated(2) at " + hour, tea.isSeated(2), hour >= 60 && hour < 68);
            tea.passHours(1);
        }
        due.is("wasServed(0) of one who left", tea.wasServed(0), false);
        due.is("wasStormed(0) of one who left", tea.wasStormed(0), false);
    }

    private static void content() {
        WeatherTea tea = Tea.brewed("front a is warm force 3 at 0 for 9; front b is warm force 1 at 0 for 9; front c is warm force 1 at 0 for 9;"
                + "guest g at 0 likes 3 to 4 nerve 0; guest h at 1 likes 0 to 30 nerve 0; guest i at 0 likes 0 to 0 nerve 0;");
        due.is("isContent() with weak tea", tea.isContent(0), false);
        due.is("isContent() with just this tea", tea.isContent(2), true);
        due.is("isContent() before coming", tea.isContent(1), false);
        tea.steep(0);
        due.is("isContent() at the lower number", tea.isContent(0), true);
        due.is("isContent() no more", tea.isContent(2), false);
        tea.steep(1);
        due.is("isContent() at the upper number", tea.isContent(0), true);
        tea.heat(15);
        due.is("isContent() at 15", tea.isContent(0), true);
        tea.heat(14);
        due.is("isContent() at 14", tea.isContent(0), false);
        tea.heat(40);
        due.is("isContent() at 40", tea.isContent(0), true);
        tea.steep(2);
        due.is("isContent() with strong tea", tea.isContent(0), false);
        tea.passHours(1);
        due.is("isContent() of one who has come", tea.isContent(1), true);
        tea.passHours(8);
        due.is("isContent() of one who has left", tea.isContent(1), false);
    }

    private static void servedOrStormed() {
        WeatherTea tea = Tea.brewed("guest g at 0 likes 0 to 4 nerve 0; guest h at 0 likes 0 to 30 nerve 0; guest i at 0 likes 0 to 0 nerve 20;");
        tea.serve(0);
        due.is("wasServed(0)", tea.wasServed(0), true);
        due.is("wasServed(1)", tea.wasServed(1), false);
        due.is("isSeated() of a served one", tea.isSeated(0), false);
        due.is("isContent() of a served one", tea.isContent(0), false);
        tea.lemon();
        tea.lemon();
        tea.passHours(1);
        due.is("wasStormed(0) of a served one", tea.wasStormed(0), false);
        due.is("wasStormed(1)", tea.wasStormed(1), true);
        due.is("wasServed(1) of a stormed one", tea.wasServed(1), false);
        due.is("isSeated() of a stormed one", tea.isSeated(1), false);
        due.is("isContent() of a stormed one", tea.isContent(1), false);
        due.is("wasStormed(2)", tea.wasStormed(2), false);
        tea.passHours(20);
        due.is("wasServed(0) later", tea.wasServed(0), true);
        due.is("wasStormed(1) later", tea.wasStormed(1), true);
    }

    private static void wrongNumbers() {
        WeatherTea two = Tea.brewed("guest g at 0 likes 0 to 4 nerve 0; guest h at 0 likes 0 to 30 nerve 0; front a is warm force 3 at 0 for 9;"
                + "front b is warm force 3 at 0 for 9; front c is warm force 3 at 0 for 9;");
        WeatherTea none = new WeatherTea();
        WeatherTea fewer = Tea.brewed("guest g at 0 likes 0 to 4 nerve 0; guest h at 0 likes 0 to 30 nerve 0;");
        Tea.teach(fewer, "guest g at 0 likes 0 to 4 nerve 0;");
        WeatherTea[] teas = {two, two, two, two, none, none, fewer};
        int[] numbers = {2, -1, Integer.MAX_VALUE, Integer.MIN_VALUE, 0, -1, 1};
        for (int i = 0; i < teas.length; i++) {
            WeatherTea tea = teas[i];
            int n = numbers[i];
            due.refuses("isSeated(" + n + ")", tea, IndexOutOfBoundsException.class, () -> tea.isSeated(n) ? 1 : 0);
            due.refuses("isContent(" + n + ")", tea, IndexOutOfBoundsException.class, () -> tea.isContent(n) ? 1 : 0);
            due.refuses("wasServed(" + n + ")", tea, IndexOutOfBoundsException.class, () -> tea.wasServed(n) ? 1 : 0);
            due.refuses("wasStormed(" + n + ")", tea, IndexOutOfBoundsException.class, () -> tea.wasStormed(n) ? 1 : 0);
            due.refuses("serve(" + n + ")", tea, IndexOutOfBoundsException.class, () -> tea.serve(n));
            due.refuses("hoursUntilServed(" + n + ")", tea, IndexOutOfBoundsException.class, () -> tea.hoursUntilServed(n));
        }
    }
}
