import java.util.ArrayList;
import java.util.HashMap;
import java.util.HashSet;
import java.util.LinkedHashMap;
import java.util.List;
import java.util.Map;
import java.util.Set;
import java.util.regex.Matcher;
import java.util.regex.Pattern;

/**
 * The document a second time, written apart from the program and as differently as may be: the grammar as rules that
 * are tried all at once, tests read anew each time they are reckoned, fronts and guests who are told to come and go.
 */
final class Model {

    static final class Front {
        boolean warm;
        int force;
        int at;
        int hours;
        boolean over;
        boolean steeped;
        int hoursOver;
    }

    static final class Guest {
        int at;
        int low;
        int high;
        int nerve;
        boolean seated;
        boolean served;
        boolean stormed;
        int hoursSeated;
    }

    static final class Order {
        String deed;
        String name;
        List<String> test;
    }

    Map<String, Front> fronts = new LinkedHashMap<>();
    Map<String, Guest> guests = new LinkedHashMap<>();
    List<Order> orders = new ArrayList<>();
    int errorAt = -1;
    int hour;
    int warmth = 20;
    int strength;
    int charge;
    int lemons = 3;
    int saucers = 3;
    int coins;
    int storms;

    // ---- reading

    private static final Set<String> KEYWORDS = Set.of(("front is warm cold at for force guest likes to nerve steep lemon"
            + " saucer serve when hour warmth strength charge lemons saucers seated over storms content of not and or min max")
            .split(" "));
    private static final Pattern TOKEN = Pattern.compile("[a-z][a-z0-9]*|[0-9]+|<=|>=|[()\\[\\];,+*/<>=-]");
    private static final Map<String, String[]> RULES = rules();

    /** Each rule's ways, its words parted by blanks; a word with @ is a rule, with the depth behind the @. */
    private static Map<String, String[]> rules() {
        Map<String, String[]> rules = new HashMap<>();
        rules.put("plan@", new String[] {"", "line@ ; plan@"});
        rules.put("line@", new String[] {"front NAME is warm force NUM at NUM for NUM", "front NAME is cold force NUM at NUM for NUM",
            "guest NAME at NUM likes NUM to NUM nerve NUM", "order@", "order@ when test@0"});
        rules.put("order@", new String[] {"steep NAME", "serve NAME", "lemon", "saucer"});
        for (int d = 0; d <= 8; d++) {
            int in = d + 1;
            String open = d < 8 ? "(" : "NEVER";
            rules.put("test@" + d, new String[] {"both@" + d, "both@" + d + " or test@" + d});
            rules.put("both@" + d, new String[] {"single@" + d, "single@" + d + " and both@" + d});
            rules.put("single@" + d, new String[] {d < 8 ? "not single@" + in : "NEVER", d < 8 ? "[ test@" + in + " ]" : "NEVER",
                "over NAME", "seated NAME", "content NAME", "sum@" + d + " sign@ sum@" + d});
            rules.put("sum@" + d, new String[] {"product@" + d, "product@" + d + " + sum@" + d, "product@" + d + " - sum@" + d});
            rules.put("product@" + d, new String[] {"value@" + d, "value@" + d + " * product@" + d, "value@" + d + " / product@" + d});
            rules.put("value@" + d, new String[] {"NUM", "hour", "warmth", "strength", "charge", "lemons", "saucers", "storms",
                "force of NAME", d < 8 ? "- value@" + in : "NEVER", d < 8 ? "( sum@" + in + " )" : "NEVER",
                "min " + open + " sum@" + in + " , sum@" + in + " )", "max " + open + " sum@" + in + " , sum@" + in + " )"});
        }
        rules.put("sign@", new String[] {"<", ">", "=", "<=", ">="});
        return rules;
    }

    /** All that may still come, as texts of words parted by blanks, each beginning with a terminal or empty. */
    private static Set<String> opened(Set<String> stacks) {
        Set<String> open = new HashSet<>();
        List<String> left = new ArrayList<>(stacks);
        Set<String> seen = new HashSet<>(stacks);
        while (!left.isEmpty()) {
            String stack = left.remove(left.size() - 1);
            String[] parts = stack.split(" ", 2);
            if (!parts[0].contains("@")) {
                open.add(stack);
                continue;
            }
            String rest = parts.length > 1 ? parts[1] : "";
            for (String way : RULES.get(parts[0])) {
                String next = (way + " " + rest).trim();
                if (seen.add(next)) {
                    left.add(next);
                }
            }
        }
        return open;
    }

    private static String sort(String token) {
        if (Character.isDigit(token.charAt(0))) {
            return "NUM";
        }
        return Character.isLetter(token.charAt(0)) && !KEYWORDS.contains(token) ? "NAME" : token;
    }

    /** Returns the position of error 1, or -1; puts the tokens and their places into the lists. */
    private static int firstError(String tape, List<String> tokens, List<Integer> places) {
        Set<String> stacks = new HashSet<>();
        stacks.add("plan@");
        int at = 0;
        Matcher matcher = TOKEN.matcher(tape);
        while (true) {
            while (at < tape.length() && (tape.charAt(at) == ' ' || tape.charAt(at) == '\n')) {
                at++;
            }
            Set<String> open = opened(stacks);
            if (at == tape.length()) {
                return open.contains("") ? -1 : at;
            }
            if (tokens.size() == 400 || !matcher.find(at) || matcher.start() != at) {
                return at;
            }
            String token = matcher.group();
            String sort = sort(token);
            if (token.length() > (sort.equals("NUM") ? 6 : 10)) {
                return at;
            }
            stacks = new HashSet<>();
            for (String stack : open) {
                String[] parts = stack.split(" ", 2);
                if (parts[0].equals(sort)) {
                    stacks.add(parts.length > 1 ? parts[1] : "");
                }
            }
            if (stacks.isEmpty()) {
                return at;
            }
            tokens.add(token);
            places.add(at);
            at = matcher.end();
        }
    }

    int teach(String tape) {
        List<String> tokens = new ArrayList<>();
        List<Integer> places = new ArrayList<>();
        errorAt = firstError(tape, tokens, places);
        if (errorAt >= 0) {
            return 1;
        }
        Model told = new Model();
        List<int[]> errors = new ArrayList<>();
        int at = 0;
        while (at < tokens.size()) {
            List<String> line = tokens.subList(at, tokens.size());
            line = line.subList(0, line.indexOf(";"));
            told.tell(line, at, errors);
            at += line.size() + 1;
        }
        int[] first = null;
        for (int[] error : errors) {
            if (first == null || error[0] < first[0] || error[0] == first[0] && error[1] < first[1]) {
                first = error;
            }
        }
        if (first != null) {
            errorAt = places.get(first[0]);
            return first[1];
        }
        fronts = told.fronts;
        guests = told.guests;
        orders = told.orders;
        hour = 0;
        warmth = 20;
        strength = 0;
        charge = 0;
        lemons = 3;
        saucers = 3;
        coins = 0;
        storms = 0;
        come();
        return 0;
    }

    private static int number(List<String> line, String behind) {
        return Integer.parseInt(line.get(line.indexOf(behind) + 1));
    }

    /** Adds every error of the line, as a token and the error's number; only the first of all will be told. */
    private void tell(List<String> line, int first, List<int[]> errors) {
        String name = line.size() > 1 ? line.get(1) : "";
        switch (line.get(0)) {
            case "front": {
                Front front = new Front();
                front.warm = line.get(3).equals("warm");
                front.force = number(line, "force");
                front.at = number(line, "at");
                front.hours = number(line, "for");
                range(line, "force", 1, 9, first, errors);
                range(line, "at", 0, 60, first, errors);
                range(line, "for", 1, 12, first, errors);
                if (fronts.containsKey(name)) {
                    errors.add(new int[] {first + 1, 2});
                } else if (fronts.size() == 10) {
                    errors.add(new int[] {first + 1, 4});
                }
                fronts.put(name, front);
                break;
            }
            case "guest": {
                Guest guest = new Guest();
                guest.at = number(line, "at");
                guest.low = number(line, "likes");
                guest.high = number(line, "to");
                guest.nerve = number(line, "nerve");
                range(line, "at", 0, 60, first, errors);
                range(line, "likes", 0, 30, first, errors);
                range(line, "to", guest.low, 30, first, errors);
                range(line, "nerve", 0, 20, first, errors);
                if (guests.containsKey(name)) {
                    errors.add(new int[] {first + 1, 2});
                } else if (guests.size() == 10) {
                    errors.add(new int[] {first + 1, 4});
                }
                guests.put(name, guest);
                break;
            }
            default: {
                Order order = new Order();
                order.deed = line.get(0);
                order.name = name;
                int when = line.indexOf("when");
                order.test = when < 0 ? null : new ArrayList<>(line.subList(when + 1, line.size()));
                orders.add(order);
                if (orders.size() > 16) {
                    errors.add(new int[] {first, 4});
                }
                for (int i = 1; i < line.size(); i++) {
                    boolean front = Set.of("steep", "over", "of").contains(line.get(i - 1));
                    boolean guest = Set.of("serve", "seated", "content").contains(line.get(i - 1));
                    if (front && !fronts.containsKey(line.get(i)) || guest && !guests.containsKey(line.get(i))) {
                        errors.add(new int[] {first + i, 3});
                    }
                }
            }
        }
    }

    private static void range(List<String> line, String behind, int low, int high, int first, List<int[]> errors) {
        int number = number(line, behind);
        if (number < low || number > high) {
            errors.add(new int[] {first + line.indexOf(behind) + 1, 5});
        }
    }

    // ---- the pot

    List<Front> frontList() {
        return new ArrayList<>(fronts.values());
    }

    List<Guest> guestList() {
        return new ArrayList<>(guests.values());
    }

    boolean content(Guest guest) {
        return guest.seated && strength >= guest.low && strength <= guest.high && warmth >= 15;
    }

    boolean steep(Front front) {
        if (front.over) {
            strength = Math.min(30, strength + front.force);
            front.over = false;
            front.steeped = true;
            return true;
        }
        return false;
    }

    boolean lemon() {
        if (lemons > 0) {
            lemons--;
            charge = Math.min(30, charge + 6);
            return true;
        }
        return false;
    }

    boolean saucer() {
        if (saucers > 0) {
            saucers--;
            charge = Math.max(0, charge - 5);
            return true;
        }
        return false;
    }

    int serve(Guest guest) {
        if (!content(guest)) {
            return -1;
        }
        int paid = strength;
        coins += paid;
        guest.served = true;
        guest.seated = false;
        strength = Math.max(0, strength - 3);
        return paid;
    }

    private void come() {
        for (Front front : fronts.values()) {
            front.over |= front.at == hour;
        }
        for (Guest guest : guests.values()) {
            guest.seated |= guest.at == hour;
        }
    }

    void passHour() {
        for (Order order : orders) {
            if (order.test == null || new Reader(order.test).test()) {
                switch (order.deed) {
                    case "steep" -> steep(fronts.get(order.name));
                    case "serve" -> serve(guests.get(order.name));
                    case "lemon" -> lemon();
                    default -> saucer();
                }
            }
        }
        int warm = 0;
        int cold = 0;
        int many = 0;
        for (Front front : fronts.values()) {
            if (front.over) {
                many++;
                warm += front.warm ? front.force : 0;
                cold += front.warm ? 0 : front.force;
            }
        }
        if (many == 0) {
            warmth = warmth > 20 ? warmth - 1 : warmth < 20 ? warmth + 1 : 20;
        } else {
            warmth = Math.min(40, Math.max(0, warmth + warm - cold));
        }
        charge = Math.min(30, charge + Math.min(warm, cold));
        if (charge >= 12) {
            storms++;
            for (Guest guest : guests.values()) {
                if (guest.seated && guest.nerve < charge) {
                    guest.stormed = true;
                    guest.seated = false;
                }
            }
            strength = strength / 2;
            charge -= 12;
        }
        hour++;
        for (Front front : fronts.values()) {
            if (front.over && ++front.hoursOver == front.hours) {
                front.over = false;
            }
        }
        for (Guest guest : guests.values()) {
            if (guest.seated && ++guest.hoursSeated == 8) {
                guest.seated = false;
            }
        }
        come();
    }

    Model copy() {
        Model copy = new Model();
        for (Map.Entry<String, Front> entry : fronts.entrySet()) {
            Front from = entry.getValue();
            Front to = new Front();
            to.warm = from.warm;
            to.force = from.force;
            to.at = from.at;
            to.hours = from.hours;
            to.over = from.over;
            to.steeped = from.steeped;
            to.hoursOver = from.hoursOver;
            copy.fronts.put(entry.getKey(), to);
        }
        for (Map.Entry<String, Guest> entry : guests.entrySet()) {
            Guest from = entry.getValue();
            Guest to = new Guest();
            to.at = from.at;
            to.low = from.low;
            to.high = from.high;
            to.nerve = from.nerve;
            to.seated = from.seated;
            to.served = from.served;
            to.stormed = from.stormed;
            to.hoursSeated = from.hoursSeated;
            copy.guests.put(entry.getKey(), to);
        }
        copy.orders = orders;
        copy.errorAt = errorAt;
        copy.hour = hour;
        copy.warmth = warmth;
        copy.strength = strength;
        copy.charge = charge;
        copy.lemons = lemons;
        copy.saucers = saucers;
        copy.coins = coins;
        copy.storms = storms;
        return copy;
    }

    // ---- what would be

    int coinsAfter(int hours) {
        Model then = copy();
        for (int i = 0; i < hours; i++) {
            then.passHour();
        }
        return then.coins;
    }

    int hoursUntilStorm() {
        Model then = copy();
        for (int i = 1; i <= 60; i++) {
            then.passHour();
            if (then.storms != storms) {
                return i;
            }
        }
        return -1;
    }

    int hoursUntilServed(int guest) {
        Model then = copy();
        for (int i = 0; i <= 60; i++) {
            if (then.guestList().get(guest).served) {
                return i;
            }
            then.passHour();
        }
        return -1;
    }

    int bestToSteep() {
        int best = -1;
        long most = -1;
        for (int i = 0; i < fronts.size(); i++) {
            Model then = copy();
            if (then.steep(then.frontList().get(i))) {
                long content = then.guests.values().stream().filter(then::content).count();
                if (content > most) {
                    most = content;
                    best = i;
                }
            }
        }
        return best;
    }

    double meanForce() {
        return fronts.values().stream().filter(front -> front.over).mapToInt(front -> front.force).average().orElse(0);
    }

    int seatedGuests() {
        return (int) guests.values().stream().filter(guest -> guest.seated).count();
    }

    int served() {
        return (int) guests.values().stream().filter(guest -> guest.served).count();
    }

    int stormed() {
        return (int) guests.values().stream().filter(guest -> guest.stormed).count();
    }

    long digest() {
        List<Integer> all = new ArrayList<>(List.of(fronts.size(), guests.size(), hour, warmth, strength, charge, lemons,
                saucers, coins, storms));
        all.addAll(List.of(seatedGuests(), served(), stormed(), bestToSteep()));
        for (Front front : fronts.values()) {
            all.add(front.over ? 1 : 0);
            all.add(front.steeped ? 1 : 0);
        }
        for (Guest guest : guests.values()) {
            all.add(guest.seated ? 1 : 0);
            all.add(content(guest) ? 1 : 0);
            all.add(guest.served ? 1 : 0);
            all.add(guest.stormed ? 1 : 0);
        }
        long d = 1033;
        for (int x : all) {
            d = d * 31 + x;
        }
        return d;
    }

    /** Reckons a test while it reads it. */
    private final class Reader {
        private final List<String> words;
        private int at = 0;

        Reader(List<String> words) {
            this.words = words;
        }

        private String next() {
            return at < words.size() ? words.get(at) : "";
        }

        boolean test() {
            boolean so = both();
            while (next().equals("or")) {
                at++;
                so |= both();
            }
            return so;
        }

        private boolean both() {
            boolean so = single();
            while (next().equals("and")) {
                at++;
                so &= single();
            }
            return so;
        }

        private boolean single() {
            boolean so;
            switch (next()) {
                case "not":
                    at++;
                    return !single();
                case "[":
                    at++;
                    so = test();
                    at++;
                    return so;
                case "over":
                    at += 2;
                    return fronts.get(words.get(at - 1)).over;
                case "seated":
                    at += 2;
                    return guests.get(words.get(at - 1)).seated;
                case "content":
                    at += 2;
                    return content(guests.get(words.get(at - 1)));
                default:
                    int left = sum();
                    String sign = words.get(at++);
                    int right = sum();
                    return sign.contains("=") && left == right || sign.contains("<") && left < right
                            || sign.contains(">") && left > right;
            }
        }

        private int sum() {
            int sum = product();
            while (next().equals("+") || next().equals("-")) {
                sum = words.get(at++).equals("+") ? sum + product() : sum - product();
            }
            return sum;
        }

        private int product() {
            int product = value();
            while (next().equals("*") || next().equals("/")) {
                boolean times = words.get(at++).equals("*");
                int right = value();
                product = times ? product * right : right == 0 ? 0 : (int) ((long) product / right);
            }
            return product;
        }

        private int value() {
            String word = words.get(at++);
            int value;
            switch (word) {
                case "hour": return hour;
                case "warmth": return warmth;
                case "strength": return strength;
                case "charge": return charge;
                case "lemons": return lemons;
                case "saucers": return saucers;
                case "storms": return storms;
                case "force":
                    at += 2;
                    return fronts.get(words.get(at - 1)).force;
                case "-":
                    return -value();
                case "(":
                    value = sum();
                    at++;
                    return value;
                case "min":
                case "max":
                    at++;
                    int left = sum();
                    at++;
                    int right = sum();
                    at++;
                    return word.equals("min") == left < right ? left : right;
                default:
                    return Integer.parseInt(word);
            }
        }
    }
}
