/** What teach() is due to say of a text, and what it is due to leave. */
final class Reading {

    private final Due due;

    Reading(Due due) {
        this.due = due;
    }

    void plan(String text) {
        error(text, 0, -1);
    }

    /** The text has this error, at this byte, and the plan that was told before stays. */
    void error(String text, int want, int at) {
        WeatherTea tea = Tea.brewed("front x is cold force 2 at 0 for 9;");
        String before = withoutError(tea);
        due.is("teach() of <" + text + ">", Tea.teach(tea, text), want);
        due.is("errorAt() of <" + text + ">", tea.errorAt(), at);
        due.is("the tape behind <" + text + "> is empty", isEmpty(tea), true);
        if (want != 0) {
            due.is("the old plan behind <" + text + ">", withoutError(tea).equals(before), true);
        }
    }

    /** The text before the mark ^ and the one behind it, joined, have the error at the mark. */
    void errorAtMark(String marked, int want) {
        int mark = marked.indexOf('^');
        error(marked.substring(0, mark) + marked.substring(mark + 1), want, mark);
    }

    static boolean isEmpty(WeatherTea tea) {
        try {
            tea.trim(1);
            return false;
        } catch (IllegalArgumentException e) {
            return true;
        }
    }

    /** All that can be asked but errorAt(), which an error changes. */
    static String withoutError(WeatherTea tea) {
        String state = Tea.state(tea);
        return state.substring(state.indexOf(' '));
    }
}
