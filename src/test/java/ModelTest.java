import java.util.ArrayList;
import java.util.List;
import java.util.Random;

/** The program against the model, over many plans and calls that are drawn with a fixed seed. */
public final class ModelTest {

    private static final Due due = new Due("ModelTest");
    private static final Random random = new Random(1033);
    private static final String[] WORDS = {"front", "is", "warm", "cold", "at", "for", "force", "guest", "likes", "to",
        "nerve", "steep", "lemon", "saucer", "serve", "when", "hour", "warmth", "strength", "charge", "lemons", "saucers",
        "seated", "over", "storms", "content", "of", "not", "and", "or", "min", "max", "(", ")", "[", "]", ";", ",", "+",
        "-", "*", "/", "<", ">", "=", "<=", ">=", "n0", "n1", "n2", "zz9", "0", "1", "7", "31", "999999", "1234567",
        "abcdefghijk", "@", "\u00e9", "\t", "not not", "((", "[[", "--", "6 to 5", "17th"};

    private static final int[] told = new int[6];
    private static int stormed = 0;
    private static int served = 0;
    private static int steeped = 0;

    public static void main(String[] args) {
        for (int i = 0; i < 700; i++) {
            run();
        }
        for (int i = 0; i < 6000; i++) {
            spoil();
        }
        eachTokenBehindEachBeginning();
        System.out.println("ModelTest: right plans " + told[0] + ", errors 1 to 5: " + told[1] + " " + told[2] + " " + told[3]
                + " " + told[4] + " " + told[5] + ", stormed " + stormed + ", served " + served + ", steeped " + steeped);
        for (int error = 0; error <= 5; error++) {
            due.is("error " + error + " was met often", told[error] > 60, true);
        }
        due.is("guests were stormed, and served, and fronts steeped", stormed > 200 && served > 200 && steeped > 200, true);
        due.end();
    }

    // ---- drawing plans

    private static int upTo(int most) {
        return random.nextInt(most + 1);
    }

    private static String one(String... of) {
        return of[random.nextInt(of.length)];
    }

    /** A number that is in its range, or just outside of it once in a while in a wild plan. */
    private static int number(int low, int high, boolean wild) {
        if (wild && upTo(60) == 0) {
            return upTo(1) == 0 ? Math.max(0, low - 1) : high + 1;
        }
        return low + upTo(high - low);
    }

    private static String name(int among, boolean wild) {
        return "n" + (wild && upTo(60) == 0 ? upTo(10) : upTo(among - 1));
    }

    private static String plan(boolean wild) {
        List<String> lines = new ArrayList<>();
        int fronts = wild && upTo(7) == 0 ? 11 : 1 + upTo(9);
        int guests = wild && upTo(7) == 0 ? 11 : 1 + upTo(9);
        int orders = wild && upTo(5) == 0 ? 17 : upTo(12);
        for (int i = 0; i < fronts; i++) {
            int at = upTo(3) == 0 ? number(0, 60, wild) : upTo(9);
            lines.add("front " + (wild && upTo(50) == 0 ? name(11, false) : "n" + i) + " is " + one("warm", "cold") + " force "
                    + number(1, 9, wild) + " at " + at + " for " + number(1, 12, wild) + ";");
        }
        for (int i = 0; i < guests; i++) {
            int at = upTo(3) == 0 ? number(0, 60, wild) : upTo(12);
            int low = number(0, 1 + upTo(29), wild);
            int high = low <= 30 ? number(low, 30, wild) : 30;
            lines.add("guest " + (wild && upTo(50) == 0 ? name(11, false) : "n" + i) + " at " + at + " likes " + low + " to " + high
                    + " nerve " + number(0, 20, wild) + ";");
        }
        for (int i = 0; i < orders; i++) {
            String order = one("lemon", "saucer", "steep", "steep", "serve", "serve", "serve");
            if (order.equals("steep")) {
                order += " " + name(fronts, wild);
            } else if (order.equals("serve")) {
                order += " " + name(guests, wild);
            }
            lines.add(order + (upTo(2) == 0 ? "" : " when " + test(fronts, guests, wild ? 1 : 2, wild)) + ";");
        }
        if (wild && upTo(3) == 0) {
            String moved = lines.remove(upTo(lines.size() - 1));
            lines.add(upTo(lines.size()), moved);
        }
        return String.join(one("", " ", "\n"), lines);
    }

    private static String test(int fronts, int guests, int deep, boolean wild) {
        switch (upTo(deep > 0 ? 11 : 6)) {
            case 0:
                return "over " + name(fronts, wild);
            case 1:
                return "seated " + name(guests, wild);
            case 2:
                return "content " + name(guests, wild);
            case 7:
                return "not " + test(fronts, guests, deep - 1, wild);
            case 8:
                return "[" + test(fronts, guests, deep - 1, wild) + "]";
            case 9:
                return test(fronts, guests, deep - 1, wild) + " and " + test(fronts, guests, deep - 1, wild);
            case 10:
                return test(fronts, guests, deep - 1, wild) + " or " + test(fronts, guests, deep - 1, wild);
            case 11:
                return sum(fronts, 2, wild) + one("<", ">", "=", "<=", ">=") + sum(fronts, 2, wild);
            default:
                return one("hour", "warmth", "strength", "charge", "lemons", "saucers", "storms", "force of " + name(fronts, wild))
                        + one(" < ", " > ", " = ", " <= ", " >= ") + sum(fronts, 1, wild);
        }
    }

    private static String sum(int fronts, int deep, boolean wild) {
        switch (deep > 0 ? upTo(9) : upTo(1)) {
            case 2:
                return "-" + sum(fronts, deep - 1, wild);
            case 3:
                return "(" + sum(fronts, deep - 1, wild) + ")";
            case 4:
                return one("min", "max") + "(" + sum(fronts, deep - 1, wild) + ", " + sum(fronts, deep - 1, wild) + ")";
            case 5:
            case 6:
            case 7:
                return sum(fronts, deep - 1, wild) + one("+", "-", "*", "/", "*99999*", "/-") + sum(fronts, deep - 1, wild);
            case 0:
                return one("hour", "warmth", "strength", "charge", "lemons", "saucers", "storms", "force of " + name(fronts, wild));
            default:
                return "" + (upTo(5) == 0 ? random.nextInt(1000000) : upTo(12));
        }
    }

    // ---- comparing

    private static void taught(WeatherTea tea, Model model, String text) {
        int want = model.teach(text);
        told[want]++;
        due.is("teach() of <" + text + ">", Tea.teach(tea, text), want);
        due.is("errorAt() of <" + text + ">", tea.errorAt(), model.errorAt);
    }

    private static void same(WeatherTea tea, Model model) {
        due.is("fronts()", tea.fronts(), model.fronts.size());
        due.is("guests()", tea.guests(), model.guests.size());
        due.is("hour()", tea.hour(), model.hour);
        due.is("warmth()", tea.warmth(), model.warmth);
        due.is("strength()", tea.strength(), model.strength);
        due.is("charge()", tea.charge(), model.charge);
        due.is("lemons()", tea.lemons(), model.lemons);
        due.is("saucers()", tea.saucers(), model.saucers);
        due.is("coins()", tea.coins(), model.coins);
        due.is("storms()", tea.storms(), model.storms);
        due.is("seatedGuests()", tea.seatedGuests(), model.seatedGuests());
        due.is("served()", tea.served(), model.served());
        due.is("stormed()", tea.stormed(), model.stormed());
        due.isDouble("meanForce()", tea.meanForce(), model.meanForce());
        due.is("bestToSteep()", tea.bestToSteep(), model.bestToSteep());
        due.is("digest()", tea.digest(), model.digest());
        List<Model.Front> fronts = model.frontList();
        for (int i = 0; i < fronts.size(); i++) {
            due.is("isWarm()", tea.isWarm(i), fronts.get(i).warm);
            due.is("forceOf()", tea.forceOf(i), fronts.get(i).force);
            due.is("isOver()", tea.isOver(i), fronts.get(i).over);
            due.is("isSteeped()", tea.isSteeped(i), fronts.get(i).steeped);
        }
        List<Model.Guest> guests = model.guestList();
        for (int i = 0; i < guests.size(); i++) {
            due.is("isSeated()", tea.isSeated(i), guests.get(i).seated);
            due.is("isContent()", tea.isContent(i), model.content(guests.get(i)));
            due.is("wasServed()", tea.wasServed(i), guests.get(i).served);
            due.is("wasStormed()", tea.wasStormed(i), guests.get(i).stormed);
        }
    }

    private static void run() {
        WeatherTea tea = new WeatherTea();
        Model model = new Model();
        int plans = 1 + upTo(2);
        for (int i = 0; i < plans; i++) {
            String text = plan(upTo(4) == 0);
            if (text.length() <= 2000) {
                taught(tea, model, text);
            }
            int calls = upTo(30);
            for (int call = 0; call < calls; call++) {
                call(tea, model);
                same(tea, model);
            }
            stormed += model.stormed();
            served += model.served();
            steeped += (int) model.frontList().stream().filter(front -> front.steeped).count();
        }
    }

    private static void call(WeatherTea tea, Model model) {
        int front = upTo(model.fronts.size() + 1) - 1;
        int guest = upTo(model.guests.size() + 1) - 1;
        boolean noFront = front < 0 || front >= model.fronts.size();
        boolean noGuest = guest < 0 || guest >= model.guests.size();
        int hours = upTo(9) == 0 ? upTo(31) : 1 + upTo(2);
        switch (upTo(9)) {
            case 0:
            case 1:
                if (noFront) {
                    due.refuses("steep()", tea, IndexOutOfBoundsException.class, () -> tea.steep(front));
                } else if (!model.steep(model.frontList().get(front))) {
                    due.refuses("steep()", tea, IllegalStateException.class, () -> tea.steep(front));
                } else {
                    due.is("steep()", tea.steep(front), model.strength);
                }
                break;
            case 2:
                if (!model.lemon()) {
                    due.refuses("lemon()", tea, IllegalStateException.class, tea::lemon);
                } else {
                    due.is("lemon()", tea.lemon(), model.charge);
                }
                break;
            case 3:
                if (!model.saucer()) {
                    due.refuses("saucer()", tea, IllegalStateException.class, tea::saucer);
                } else {
                    due.is("saucer()", tea.saucer(), model.charge);
                }
                break;
            case 4:
                serve(tea, model, guest, noGuest);
                break;
            case 5:
                int warmth = upTo(42) - 1;
                if (warmth < 0 || warmth > 40) {
                    due.refuses("heat()", tea, IllegalArgumentException.class, () -> tea.heat(warmth));
                } else {
                    due.is("heat()", tea.heat(warmth), model.warmth);
                    model.warmth = warmth;
                }
                break;
            case 6:
                lookAhead(tea, model, hours, guest, noGuest);
                break;
            default:
                pass(tea, model, hours);
                break;
        }
    }

    private static void serve(WeatherTea tea, Model model, int guest, boolean noGuest) {
        int paid = noGuest ? -1 : model.serve(model.guestList().get(guest));
        if (noGuest) {
            due.refuses("serve()", tea, IndexOutOfBoundsException.class, () -> tea.serve(guest));
        } else if (paid < 0) {
            due.refuses("serve()", tea, IllegalStateException.class, () -> tea.serve(guest));
        } else {
            due.is("serve()", tea.serve(guest), paid);
        }
    }

    private static void pass(WeatherTea tea, Model model, int hours) {
        if (hours < 1 || hours > 30) {
            due.refuses("passHours()", tea, IllegalArgumentException.class, () -> tea.passHours(hours));
            return;
        }
        int before = model.storms;
        for (int i = 0; i < hours; i++) {
            model.passHour();
        }
        due.is("passHours()", tea.passHours(hours), model.storms - before);
    }

    private static void lookAhead(WeatherTea tea, Model model, int hours, int guest, boolean noGuest) {
        due.is("hoursUntilStorm()", tea.hoursUntilStorm(), model.hoursUntilStorm());
        if (hours < 1 || hours > 30) {
            due.refuses("coinsAfter()", tea, IllegalArgumentException.class, () -> tea.coinsAfter(hours));
        } else {
            due.is("coinsAfter()", tea.coinsAfter(hours), model.coinsAfter(hours));
        }
        if (noGuest) {
            due.refuses("hoursUntilServed()", tea, IndexOutOfBoundsException.class, () -> tea.hoursUntilServed(guest));
        } else {
            due.is("hoursUntilServed()", tea.hoursUntilServed(guest), model.hoursUntilServed(guest));
        }
    }

    // ---- spoiled plans

    /** A short plan in which some words are put in, left out or changed, or which is cut off. */
    private static void spoil() {
        StringBuilder text = new StringBuilder();
        String plan = "front n0 is warm force 3 at 0 for 4; guest n1 at 2 likes 3 to 5 nerve 6; " + one("lemon", "steep n0", "serve n1")
                + " when " + test(1, 2, 3, false).replace("seated n0", "seated n1").replace("content n0", "content n1") + ";";
        if (upTo(3) == 0) {
            plan = plan(true);
        }
        int spoils = upTo(2);
        String[] words = plan.split(" ");
        for (int i = 0; i < words.length; i++) {
            text.append(i == 0 ? "" : one(" ", " ", " ", "\n", "  ")).append(words[i]);
        }
        for (int i = 0; i < spoils; i++) {
            int at = upTo(text.length());
            int end = Math.min(text.length(), at + upTo(3));
            switch (upTo(3)) {
                case 0 -> text.insert(at, one(WORDS));
                case 1 -> text.delete(at, end);
                case 2 -> text.replace(at, end, " " + one(WORDS) + " ");
                default -> {
                    if (upTo(5) == 0) {
                        text.setLength(at);
                    }
                }
            }
        }
        if (text.length() <= 2000) {
            taught(new WeatherTea(), new Model(), text.toString());
        }
    }

    /** So that each place of the grammar has met each token. */
    private static void eachTokenBehindEachBeginning() {
        String[] plans = {"front n0 is warm force 7 at 0 for 1 ; guest n1 at 1 likes 0 to 7 nerve 1 ; steep n0 ;",
            "front n0 is cold force 1 at 0 for 1 ; steep n0 when over n0 ;", "guest n1 at 1 likes 0 to 7 nerve 1 ; serve n1 when content n1 and seated n1 ;",
            "lemon when not [ 1 = - 1 or 7 < hour + 1 ] and ( 7 ) * 1 >= min ( 1 , 7 ) / max ( charge , 0 ) ;",
            "front n0 is cold force 1 at 0 for 1 ; saucer when force of n0 - 1 <= [ ;"};
        for (String plan : plans) {
            StringBuilder ahead = new StringBuilder();
            for (String token : plan.split(" ")) {
                for (String word : WORDS) {
                    taught(new WeatherTea(), new Model(), ahead + word + " ;");
                }
                ahead.append(token).append(' ');
            }
        }
    }
}
