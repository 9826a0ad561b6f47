import java.lang.reflect.Constructor;
import java.lang.reflect.Field;
import java.lang.reflect.Method;
import java.lang.reflect.Modifier;
import java.util.ArrayList;
import java.util.Arrays;
import java.util.List;
import java.util.TreeSet;

/** The class has the document's face, and nothing beside it. */
public final class FaceTest {

    private static final String[] FACE = {
        "int feed(int,int,int,int,int) IllegalStateException", "int trim(int) IllegalArgumentException", "int teach()",
        "int errorAt()", "int fronts()", "int guests()", "int hour()", "int warmth()", "int strength()", "int charge()",
        "int lemons()", "int saucers()", "int coins()", "int storms()", "int seatedGuests()", "int served()",
        "int stormed()", "boolean isWarm(int) IndexOutOfBoundsException", "int forceOf(int) IndexOutOfBoundsException",
        "boolean isOver(int) IndexOutOfBoundsException", "boolean isSteeped(int) IndexOutOfBoundsException",
        "boolean isSeated(int) IndexOutOfBoundsException", "boolean isContent(int) IndexOutOfBoundsException",
        "boolean wasServed(int) IndexOutOfBoundsException", "boolean wasStormed(int) IndexOutOfBoundsException",
        "int steep(int) IndexOutOfBoundsException IllegalStateException", "int lemon() IllegalStateException",
        "int saucer() IllegalStateException", "int serve(int) IndexOutOfBoundsException IllegalStateException",
        "int heat(int) IllegalArgumentException", "int passHours(int) IllegalArgumentException",
        "int coinsAfter(int) IllegalArgumentException", "int hoursUntilStorm()",
        "int hoursUntilServed(int) IndexOutOfBoundsException", "int bestToSteep()", "double meanForce()",
        "long digest()"};

    public static void main(String[] args) {
        Due due = new Due("FaceTest");
        due.is("public and final", WeatherTea.class.getModifiers(), Modifier.PUBLIC | Modifier.FINAL);
        TreeSet<String> want = new TreeSet<>(Arrays.asList(FACE));
        TreeSet<String> got = new TreeSet<>();
        List<String> privates = new ArrayList<>();
        for (Method method : WeatherTea.class.getDeclaredMethods()) {
            if (Modifier.isPrivate(method.getModifiers())) {
                privates.add(method.getName());
            } else {
                got.add(described(method));
            }
        }
        if (!got.equals(want)) {
            System.out.println("the face is " + got);
        }
        due.is("the face is the document's", got.equals(want), true);
        for (Class<?> inside : WeatherTea.class.getDeclaredClasses()) {
            due.is(inside + " is static", Modifier.isStatic(inside.getModifiers()), true);
            due.is(inside + " is not public", Modifier.isPublic(inside.getModifiers()), false);
            for (Method method : inside.getDeclaredMethods()) {
                privates.add(method.getName());
            }
        }
        for (Method method : WeatherTea.class.getDeclaredMethods()) {
            if (Modifier.isPublic(method.getModifiers())) {
                due.is("a method inside is called " + method.getName(), privates.contains(method.getName()), false);
            }
        }
        for (Field field : WeatherTea.class.getDeclaredFields()) {
            due.is(field + " is private", Modifier.isPrivate(field.getModifiers()), true);
        }
        Constructor<?>[] constructors = WeatherTea.class.getDeclaredConstructors();
        due.is("constructors", constructors.length, 1);
        due.is("the constructor is public", Modifier.isPublic(constructors[0].getModifiers()), true);
        due.is("its parameters", constructors[0].getParameterCount(), 0);
        due.end();
    }

    private static String described(Method method) {
        List<String> parameters = new ArrayList<>();
        for (Class<?> parameter : method.getParameterTypes()) {
            parameters.add(parameter.getSimpleName());
        }
        StringBuilder text = new StringBuilder();
        text.append(Modifier.isPublic(method.getModifiers()) ? "" : "hidden ");
        text.append(Modifier.isStatic(method.getModifiers()) ? "static " : "");
        text.append(method.getReturnType().getSimpleName()).append(' ').append(method.getName());
        text.append('(').append(String.join(",", parameters)).append(')');
        for (Class<?> thrown : method.getExceptionTypes()) {
            text.append(' ').append(thrown.getSimpleName());
        }
        return text.toString();
    }
}
