import java.lang.reflect.InvocationTargetException;
import java.lang.reflect.Method;
import java.util.Arrays;
import java.util.Comparator;

/** Compares what calls answer with what is due, and tells every difference. */
final class Due {

    /** A call that is expected to throw, or not to. */
    interface Call {
        long answer();
    }

    private String test;
    private int asked = 0;
    private int wrong = 0;

    Due(String test) {
        this.test = test;
    }

    void is(String what, long got, long want) {
        asked++;
        if (got != want) {
            wrong++;
            System.out.println(test + ": " + what + " answered " + got + ", due is " + want);
        }
    }

    void is(String what, String got, String want) {
        is(what + ": <" + got + ">, due is <" + want + ">,", got.equals(want), true);
    }

    void is(String what, boolean got, boolean want) {
        is(what, got ? 1L : 0L, want ? 1L : 0L);
    }

    void isDouble(String what, double got, double want) {
        asked++;
        if (Double.compare(got, want) != 0) {
            wrong++;
            System.out.println(test + ": " + what + " answered " + got + ", due is " + want);
        }
    }

    /** The call has to throw just this exception, and to change nothing. */
    void refuses(String what, WeatherTea tea, Class<? extends RuntimeException> want, Call call) {
        asked++;
        String before = Tea.state(tea);
        String got;
        try {
            got = "the answer " + call.answer();
        } catch (RuntimeException e) {
            got = e.getClass() == want ? null : e.getClass().getSimpleName();
        }
        if (got != null) {
            wrong++;
            System.out.println(test + ": " + what + " gave " + got + ", due is " + want.getSimpleName());
        }
        if (!Tea.state(tea).equals(before)) {
            wrong++;
            System.out.println(test + ": " + what + " was refused, but changed something");
        }
    }

    /** Runs every test of a class, one for each sentence: its functions that take nothing and answer nothing. */
    void runAll(Class<?> tests) {
        Method[] all = tests.getDeclaredMethods();
        Arrays.sort(all, Comparator.comparing(Method::getName));
        int run = 0;
        for (Method one : all) {
            if (one.getParameterCount() == 0 && one.getReturnType() == void.class && !one.isSynthetic()) {
                test = tests.getSimpleName() + "." + one.getName();
                run(one);
                run++;
            }
        }
        test = tests.getSimpleName();
        System.out.println(test + ": " + run + " sentences");
        end();
    }

    private void run(Method one) {
        int before = asked;
        try {
            one.invoke(null);
        } catch (InvocationTargetException e) {
            throw new AssertionError(test + " threw", e.getCause());
        } catch (IllegalAccessException e) {
            throw new AssertionError(test + " is hidden", e);
        }
        is("asks something", asked > before, true);
    }

    void end() {
        System.out.println(test + ": " + asked + " asked, " + wrong + " wrong");
        if (wrong != 0 || asked == 0) {
            System.exit(1);
        }
    }
}
