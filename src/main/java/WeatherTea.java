/** A machine that brews weather tea. */
public final class WeatherTea {

    private static final int TAPE_BYTES = 2000;
    private static final int FED_BYTES = 20;
    private static final int WORD_BYTES = 10;
    private static final int NUMBER_BYTES = 6;
    /** So small that a word of ten signs fits a long: letters, digits, and one more for no sign. */
    private static final long WORD_BASE = 37;
    private static final int MOST_TOKENS = 400;
    private static final int MOST_DEPTH = 8;
    private static final int MOST_FRONTS = 10;
    private static final int MOST_GUESTS = 10;
    private static final int MOST_ORDERS = 16;

    private static final int MOST_WARMTH = 40;
    private static final int MOST_STRENGTH = 30;
    private static final int MOST_CHARGE = 30;
    private static final int USUAL_WARMTH = 20;
    private static final int PLEASANT_WARMTH = 15;
    private static final int LEMONS_AT_FIRST = 3;
    private static final int SAUCERS_AT_FIRST = 3;
    private static final int LEMON_CHARGE = 6;
    private static final int SAUCER_CHARGE = 5;
    private static final int CUP_STRENGTH = 3;
    private static final int STORM_CHARGE = 12;
    private static final int SEATED_HOURS = 8;

    private static final int MOST_HOURS = 30;
    private static final int FORESEEN_HOURS = 60;

    private static final int NOT_A_PLAN = 1;
    private static final int TOLD_TWICE = 2;
    private static final int NOT_TOLD = 3;
    private static final int TOO_MANY = 4;
    private static final int OUT_OF_RANGE = 5;

    private static final Kind[] KINDS = Kind.values();

    private final Tape tape;
    private final Tokens tokens;
    private final Pot pot;
    /** A second pot for what would be, made once, so that looking ahead makes no objects. */
    private final Pot trial;
    /** Where teach() builds, so that a plan with an error leaves the present one alone. */
    private Plan draft;
    private int errorPosition;

    public WeatherTea() {
        tape = new Tape();
        tokens = new Tokens();
        pot = new Pot();
        trial = new Pot();
        draft = new Plan();
        errorPosition = -1;
    }

    // ---- the language

    public int feed(int a, int b, int c, int d, int e) throws IllegalStateException {
        if (tape.length + FED_BYTES > TAPE_BYTES) {
            throw new IllegalStateException("the tape would be too long");
        }
        tape.append(a);
        tape.append(b);
        tape.append(c);
        tape.append(d);
        tape.append(e);
        return tape.length;
    }

    public int trim(int n) throws IllegalArgumentException {
        if (n < 0 || n > tape.length) {
            throw new IllegalArgumentException("the tape has not so many bytes");
        }
        tape.length = n;
        return n;
    }

    public int teach() {
        tokens.readAll(tape);
        tape.length = 0;
        draft.clear();
        Grammar.read(tokens, draft.orders);
        if (tokens.error == 0) {
            Checker.check(tokens, draft);
        }
        if (tokens.error != 0) {
            errorPosition = tokens.startAt(tokens.errorToken);
            return tokens.error;
        }
        draft.orders.resolve(tokens);
        Plan old = pot.plan;
        pot.begin(draft);
        draft = old;
        errorPosition = -1;
        return 0;
    }

    public int errorAt() {
        return errorPosition;
    }

    // ---- the pot

    public int fronts() {
        return pot.plan.fronts.count;
    }

    public int guests() {
        return pot.plan.guests.count;
    }

    public int hour() {
        return pot.hour;
    }

    public int warmth() {
        return pot.warmth;
    }

    public int strength() {
        return pot.strength;
    }

    public int charge() {
        return pot.charge;
    }

    public int lemons() {
        return pot.lemons;
    }

    public int saucers() {
        return pot.saucers;
    }

    public int coins() {
        return pot.coins;
    }

    public int storms() {
        return pot.storms;
    }

    public int seatedGuests() {
        int seated = 0;
        for (int i = 0; i < pot.plan.guests.count; i++) {
            seated += oneIf(pot.sits(i));
        }
        return seated;
    }

    public int served() {
        return countTrue(pot.guestServed, pot.plan.guests.count);
    }

    public int stormed() {
        return countTrue(pot.guestStormed, pot.plan.guests.count);
    }

    // ---- fronts

    public boolean isWarm(int front) throws IndexOutOfBoundsException {
        requireFront(front);
        return pot.plan.fronts.warm[front];
    }

    public int forceOf(int front) throws IndexOutOfBoundsException {
        requireFront(front);
        return pot.plan.fronts.force[front];
    }

    public boolean isOver(int front) throws IndexOutOfBoundsException {
        requireFront(front);
        return pot.hangsOver(front);
    }

    public boolean isSteeped(int front) throws IndexOutOfBoundsException {
        requireFront(front);
        return pot.frontSteeped[front];
    }

    // ---- guests

    public boolean isSeated(int guest) throws IndexOutOfBoundsException {
        requireGuest(guest);
        return pot.sits(guest);
    }

    public boolean isContent(int guest) throws IndexOutOfBoundsException {
        requireGuest(guest);
        return pot.wouldLike(guest, pot.strength);
    }

    public boolean wasServed(int guest) throws IndexOutOfBoundsException {
        requireGuest(guest);
        return pot.guestServed[guest];
    }

    public boolean wasStormed(int guest) throws IndexOutOfBoundsException {
        requireGuest(guest);
        return pot.guestStormed[guest];
    }

    // ---- by hand

    public int steep(int front) throws IndexOutOfBoundsException, IllegalStateException {
        requireFront(front);
        if (!pot.steepFront(front)) {
            throw new IllegalStateException("the front is not over the pot");
        }
        return pot.strength;
    }

    public int lemon() throws IllegalStateException {
        if (!pot.squeezeLemon()) {
            throw new IllegalStateException("there is no lemon");
        }
        return pot.charge;
    }

    public int saucer() throws IllegalStateException {
        if (!pot.putSaucer()) {
            throw new IllegalStateException("there is no saucer");
        }
        return pot.charge;
    }

    public int serve(int guest) throws IndexOutOfBoundsException, IllegalStateException {
        requireGuest(guest);
        int before = pot.coins;
        if (!pot.serveGuest(guest)) {
            throw new IllegalStateException("the guest is not content");
        }
        return pot.coins - before;
    }

    public int heat(int warmth) throws IllegalArgumentException {
        if (warmth < 0 || warmth > MOST_WARMTH) {
            throw new IllegalArgumentException("tea is not so cold or so warm");
        }
        int before = pot.warmth;
        pot.warmth = warmth;
        return before;
    }

    // ---- hours and what would be

    public int passHours(int hours) throws IllegalArgumentException {
        requireHours(hours);
        int before = pot.storms;
        for (int i = 0; i < hours; i++) {
            pot.passHour();
        }
        return pot.storms - before;
    }

    public int coinsAfter(int hours) throws IllegalArgumentException {
        requireHours(hours);
        trial.copyFrom(pot);
        for (int i = 0; i < hours; i++) {
            trial.passHour();
        }
        return trial.coins;
    }

    public int hoursUntilStorm() {
        trial.copyFrom(pot);
        for (int hours = 1; hours <= FORESEEN_HOURS; hours++) {
            trial.passHour();
            if (trial.storms > pot.storms) {
                return hours;
            }
        }
        return -1;
    }

    public int hoursUntilServed(int guest) throws IndexOutOfBoundsException {
        requireGuest(guest);
        trial.copyFrom(pot);
        for (int hours = 0; hours < FORESEEN_HOURS; hours++) {
            if (trial.guestServed[guest]) {
                return hours;
            }
            trial.passHour();
        }
        return trial.guestServed[guest] ? FORESEEN_HOURS : -1;
    }

    public int bestToSteep() {
        int best = -1;
        int mostContent = -1;
        for (int i = 0; i < pot.plan.fronts.count; i++) {
            if (pot.hangsOver(i)) {
                int content = pot.contentIfSteeped(i);
                if (content > mostContent) {
                    best = i;
                    mostContent = content;
                }
            }
        }
        return best;
    }

    public double meanForce() {
        int sum = 0;
        int over = 0;
        for (int i = 0; i < pot.plan.fronts.count; i++) {
            if (pot.hangsOver(i)) {
                sum += pot.plan.fronts.force[i];
                over++;
            }
        }
        return over == 0 ? 0.0 : (double) sum / over;
    }

    public long digest() {
        long d = 1033;
        d = d * 31 + fronts();
        d = d * 31 + guests();
        d = d * 31 + hour();
        d = d * 31 + warmth();
        d = d * 31 + strength();
        d = d * 31 + charge();
        d = d * 31 + lemons();
        d = d * 31 + saucers();
        d = d * 31 + coins();
        d = d * 31 + storms();
        d = d * 31 + seatedGuests();
        d = d * 31 + served();
        d = d * 31 + stormed();
        d = d * 31 + bestToSteep();
        for (int i = 0; i < pot.plan.fronts.count; i++) {
            d = d * 31 + oneIf(pot.hangsOver(i));
            d = d * 31 + oneIf(pot.frontSteeped[i]);
        }
        for (int i = 0; i < pot.plan.guests.count; i++) {
            d = d * 31 + oneIf(pot.sits(i));
            d = d * 31 + oneIf(pot.wouldLike(i, pot.strength));
            d = d * 31 + oneIf(pot.guestServed[i]);
            d = d * 31 + oneIf(pot.guestStormed[i]);
        }
        return d;
    }

    private void requireFront(int front) {
        if (!pot.plan.fronts.has(front)) {
            throw new IndexOutOfBoundsException("there is no such front");
        }
    }

    private void requireGuest(int guest) {
        if (!pot.plan.guests.has(guest)) {
            throw new IndexOutOfBoundsException("there is no such guest");
        }
    }

    private static void requireHours(int hours) {
        if (hours < 1 || hours > MOST_HOURS) {
            throw new IllegalArgumentException("hours go by 1 to 30 at a time");
        }
    }

    private static int oneIf(boolean so) {
        return so ? 1 : 0;
    }

    private static int countTrue(boolean[] row, int length) {
        int found = 0;
        for (int i = 0; i < length && i < row.length; i++) {
            found += oneIf(row[i]);
        }
        return found;
    }

    /** What a token can be, with its text if it has just one; a step of a test is told by one of these too. */
    private enum Kind {
        FRONT("front"), IS("is"), WARM("warm"), COLD("cold"), AT("at"), FOR("for"), FORCE("force"),
        GUEST("guest"), LIKES("likes"), TO("to"), NERVE("nerve"),
        STEEP("steep"), LEMON("lemon"), SAUCER("saucer"), SERVE("serve"), WHEN("when"),
        HOUR("hour"), WARMTH("warmth"), STRENGTH("strength"), CHARGE("charge"),
        LEMONS("lemons"), SAUCERS("saucers"), STORMS("storms"),
        SEATED("seated"), OVER("over"), CONTENT("content"), OF("of"),
        NOT("not"), AND("and"), OR("or"), MIN("min"), MAX("max"),
        OPEN("("), CLOSE(")"), OPEN_TEST("["), CLOSE_TEST("]"), SEMICOLON(";"), COMMA(","),
        PLUS("+"), MINUS("-"), TIMES("*"), DIVIDED("/"),
        LESS("<"), MORE(">"), EQUAL("="), AT_MOST("<="), AT_LEAST(">="),
        NAME(""), NUMBER(""),
        /** The end of the tape. */
        END(""),
        /** No token begins here, or one too long, or one too many. */
        BAD(""),
        /** Never on a tape: the step of a - in front of a value, which must not be taken for a difference. */
        TURNED("");

        final String text;

        Kind(String text) {
            this.text = text;
        }
    }

    private static final class Tape {
        private final byte[] bytes;
        int length;

        Tape() {
            bytes = new byte[TAPE_BYTES];
        }

        void append(int number) {
            for (int shift = 24; shift >= 0 && length < TAPE_BYTES; shift -= 8) {
                bytes[length] = (byte) (number >> shift);
                length++;
            }
        }

        /** Behind the end stands 0, with which no token begins or goes on. */
        int byteAt(int at) {
            return at >= 0 && at < length && at < bytes.length ? bytes[at] : 0;
        }

        boolean hasText(int at, int size, String text) {
            if (text.length() != size) {
                return false;
            }
            for (int i = 0; i < size; i++) {
                if (byteAt(at + i) != text.charAt(i)) {
                    return false;
                }
            }
            return true;
        }
    }

    /** The tokens of a tape, with a cursor that reads them once and the first error that was found in them. */
    private static final class Tokens {
        private final Kind[] kinds;
        private final int[] starts;
        /** What a number is; of a word a number that no other word has, and later which front or guest it names. */
        private final long[] values;
        int count;
        int cursor;
        int error;
        int errorToken;

        Tokens() {
            kinds = new Kind[MOST_TOKENS + 1];
            starts = new int[MOST_TOKENS + 1];
            values = new long[MOST_TOKENS + 1];
            for (int i = 0; i <= MOST_TOKENS; i++) {
                kinds[i] = Kind.END;
            }
        }

        /** Behind the last token stands END, or BAD if there is more on the tape. */
        void readAll(Tape tape) {
            count = 0;
            cursor = 0;
            error = 0;
            errorToken = 0;
            int at = behindBlanks(tape, 0);
            for (int i = 0; i < MOST_TOKENS && at < tape.length; i++) {
                int size = sizeOf(tape, at);
                Kind kind = kindOf(tape, at, size);
                if (kind == Kind.BAD) {
                    break;
                }
                add(kind, at, valueOf(tape, at, size));
                at = behindBlanks(tape, at + size);
            }
            add(at < tape.length ? Kind.BAD : Kind.END, at, 0);
        }

        private void add(Kind kind, int start, long value) {
            if (count <= MOST_TOKENS) {
                kinds[count] = kind;
                starts[count] = start;
                values[count] = value;
                count++;
            }
        }

        private static int behindBlanks(Tape tape, int from) {
            int at = from;
            while (at < tape.length && (tape.byteAt(at) == ' ' || tape.byteAt(at) == '\n')) {
                at++;
            }
            return at;
        }

        private static int sizeOf(Tape tape, int start) {
            int first = tape.byteAt(start);
            if (!isLetter(first) && !isDigit(first)) {
                return (first == '<' || first == '>') && tape.byteAt(start + 1) == '=' ? 2 : 1;
            }
            int end = start + 1;
            while (end < tape.length
                    && (isDigit(tape.byteAt(end)) || isLetter(first) && isLetter(tape.byteAt(end)))) {
                end++;
            }
            return end - start;
        }

        private static Kind kindOf(Tape tape, int start, int size) {
            int first = tape.byteAt(start);
            if (isDigit(first)) {
                return size > NUMBER_BYTES ? Kind.BAD : Kind.NUMBER;
            }
            if (isLetter(first) && size > WORD_BYTES) {
                return Kind.BAD;
            }
            for (int i = 0; i < KINDS.length; i++) {
                if (tape.hasText(start, size, KINDS[i].text)) {
                    return KINDS[i];
                }
            }
            return isLetter(first) ? Kind.NAME : Kind.BAD;
        }

        private static long valueOf(Tape tape, int start, int size) {
            boolean number = isDigit(tape.byteAt(start));
            long value = 0;
            for (int i = 0; i < size; i++) {
                int sign = tape.byteAt(start + i);
                value = number ? value * 10 + (sign - '0') : value * WORD_BASE + wordSign(sign);
            }
            return value;
        }

        /** Not 0 for any sign, so that no word has the value of a longer one. */
        private static int wordSign(int sign) {
            return isDigit(sign) ? sign - '0' + 1 : sign - 'a' + 11;
        }

        private static boolean isLetter(int sign) {
            return sign >= 'a' && sign <= 'z';
        }

        private static boolean isDigit(int sign) {
            return sign >= '0' && sign <= '9';
        }

        boolean has(int token) {
            return token >= 0 && token < count && token <= MOST_TOKENS;
        }

        Kind kindAt(int token) {
            return has(token) ? kinds[token] : Kind.END;
        }

        int startAt(int token) {
            return has(token) ? starts[token] : 0;
        }

        long valueAt(int token) {
            return has(token) ? values[token] : 0;
        }

        void setValue(int token, int value) {
            if (has(token)) {
                values[token] = value;
            }
        }

        Kind next() {
            return cursor < count ? kinds[cursor] : Kind.END;
        }

        boolean take(Kind kind) {
            if (cursor >= count || kinds[cursor] != kind) {
                return false;
            }
            cursor++;
            return true;
        }

        boolean takeNumber(Kind ahead) {
            return take(ahead) && take(Kind.NUMBER);
        }

        /** An error found later does not take the place of an earlier one. */
        void failUnless(boolean right, int number, int token) {
            if (!right && error == 0) {
                error = number;
                errorToken = token;
            }
        }
    }

    /**
     * Looks whether tokens are a plan, and writes down the orders with the steps of their tests. Each function returns
     * whether the tokens fit; if not, the cursor stays at the first one that does not. What opens a greater depth does
     * not fit where the depth would be too great behind it.
     */
    private static final class Grammar {

        static void read(Tokens tokens, Orders orders) {
            boolean fits = true;
            for (int i = 0; i < MOST_TOKENS && fits && tokens.next() != Kind.END; i++) {
                fits = line(tokens, orders) && tokens.take(Kind.SEMICOLON);
            }
            tokens.failUnless(tokens.next() == Kind.END && fits, NOT_A_PLAN, tokens.cursor);
        }

        private static boolean line(Tokens tokens, Orders orders) {
            if (tokens.take(Kind.FRONT)) {
                return tokens.take(Kind.NAME) && tokens.take(Kind.IS)
                        && (tokens.take(Kind.WARM) || tokens.take(Kind.COLD))
                        && tokens.takeNumber(Kind.FORCE) && tokens.takeNumber(Kind.AT) && tokens.takeNumber(Kind.FOR);
            }
            if (tokens.take(Kind.GUEST)) {
                return tokens.take(Kind.NAME) && tokens.takeNumber(Kind.AT) && tokens.takeNumber(Kind.LIKES)
                        && tokens.takeNumber(Kind.TO) && tokens.takeNumber(Kind.NERVE);
            }
            return order(tokens, orders);
        }

        private static boolean order(Tokens tokens, Orders orders) {
            Kind deed = tokens.next();
            if (tokens.take(Kind.STEEP) || tokens.take(Kind.SERVE)) {
                orders.add(deed, tokens.cursor);
                if (!tokens.take(Kind.NAME)) {
                    return false;
                }
            } else if (tokens.take(Kind.LEMON) || tokens.take(Kind.SAUCER)) {
                orders.add(deed, tokens.cursor);
            } else {
                return false;
            }
            boolean fits = !tokens.take(Kind.WHEN) || test(tokens, orders, 0);
            orders.endTest();
            return fits;
        }

        private static boolean test(Tokens tokens, Orders orders, int depth) {
            boolean fits = both(tokens, orders, depth);
            for (int i = 0; i < MOST_TOKENS && fits && tokens.take(Kind.OR); i++) {
                fits = both(tokens, orders, depth) && orders.addStep(Kind.OR, 0);
            }
            return fits;
        }

        private static boolean both(Tokens tokens, Orders orders, int depth) {
            boolean fits = single(tokens, orders, depth);
            for (int i = 0; i < MOST_TOKENS && fits && tokens.take(Kind.AND); i++) {
                fits = single(tokens, orders, depth) && orders.addStep(Kind.AND, 0);
            }
            return fits;
        }

        private static boolean single(Tokens tokens, Orders orders, int depth) {
            Kind kind = tokens.next();
            switch (kind) {
                case NOT:
                    return depth < MOST_DEPTH && tokens.take(Kind.NOT) && single(tokens, orders, depth + 1)
                            && orders.addStep(Kind.NOT, 0);
                case OPEN_TEST:
                    return depth < MOST_DEPTH && tokens.take(Kind.OPEN_TEST) && test(tokens, orders, depth + 1)
                            && tokens.take(Kind.CLOSE_TEST);
                case OVER:
                case SEATED:
                case CONTENT:
                    return tokens.take(kind) && orders.addStep(kind, tokens.cursor) && tokens.take(Kind.NAME);
                default:
                    return comparison(tokens, orders, depth);
            }
        }

        private static boolean comparison(Tokens tokens, Orders orders, int depth) {
            if (!sum(tokens, orders, depth)) {
                return false;
            }
            Kind sign = tokens.next();
            boolean fits = tokens.take(Kind.LESS) || tokens.take(Kind.MORE) || tokens.take(Kind.EQUAL)
                    || tokens.take(Kind.AT_MOST) || tokens.take(Kind.AT_LEAST);
            return fits && sum(tokens, orders, depth) && orders.addStep(sign, 0);
        }

        private static boolean sum(Tokens tokens, Orders orders, int depth) {
            boolean fits = product(tokens, orders, depth);
            Kind sign = tokens.next();
            for (int i = 0; i < MOST_TOKENS && fits && (tokens.take(Kind.PLUS) || tokens.take(Kind.MINUS)); i++) {
                fits = product(tokens, orders, depth) && orders.addStep(sign, 0);
                sign = tokens.next();
            }
            return fits;
        }

        private static boolean product(Tokens tokens, Orders orders, int depth) {
            boolean fits = value(tokens, orders, depth);
            Kind sign = tokens.next();
            for (int i = 0; i < MOST_TOKENS && fits && (tokens.take(Kind.TIMES) || tokens.take(Kind.DIVIDED)); i++) {
                fits = value(tokens, orders, depth) && orders.addStep(sign, 0);
                sign = tokens.next();
            }
            return fits;
        }

        private static boolean value(Tokens tokens, Orders orders, int depth) {
            Kind kind = tokens.next();
            switch (kind) {
                case NUMBER:
                case HOUR:
                case WARMTH:
                case STRENGTH:
                case CHARGE:
                case LEMONS:
                case SAUCERS:
                case STORMS:
                    return orders.addStep(kind, tokens.cursor) && tokens.take(kind);
                case FORCE:
                    return tokens.take(Kind.FORCE) && tokens.take(Kind.OF)
                            && orders.addStep(Kind.FORCE, tokens.cursor) && tokens.take(Kind.NAME);
                case MINUS:
                    return depth < MOST_DEPTH && tokens.take(Kind.MINUS) && value(tokens, orders, depth + 1)
                            && orders.addStep(Kind.TURNED, 0);
                case OPEN:
                    return depth < MOST_DEPTH && tokens.take(Kind.OPEN) && sum(tokens, orders, depth + 1)
                            && tokens.take(Kind.CLOSE);
                case MIN:
                case MAX:
                    return tokens.take(kind) && depth < MOST_DEPTH && tokens.take(Kind.OPEN)
                            && sum(tokens, orders, depth + 1) && tokens.take(Kind.COMMA)
                            && sum(tokens, orders, depth + 1) && tokens.take(Kind.CLOSE) && orders.addStep(kind, 0);
                default:
                    return false;
            }
        }
    }

    /** Looks at the keywords, names and numbers of tokens that are a plan, and writes down fronts and guests. */
    private static final class Checker {

        static void check(Tokens tokens, Plan plan) {
            int orders = 0;
            for (int i = 0; i < tokens.count && tokens.error == 0; i++) {
                if (beginsOrder(tokens.kindAt(i))) {
                    orders++;
                    tokens.failUnless(orders <= MOST_ORDERS, TOO_MANY, i);
                }
                checkBehind(tokens, i, plan);
            }
        }

        private static boolean beginsOrder(Kind kind) {
            return kind == Kind.STEEP || kind == Kind.SERVE || kind == Kind.LEMON || kind == Kind.SAUCER;
        }

        /** Looks at the names and numbers that belong to one keyword. */
        private static void checkBehind(Tokens tokens, int keyword, Plan plan) {
            switch (tokens.kindAt(keyword)) {
                case FRONT:
                    checkFront(tokens, keyword + 1, plan.fronts);
                    break;
                case GUEST:
                    checkGuest(tokens, keyword + 1, plan.guests);
                    break;
                case STEEP:
                case OVER:
                case OF:
                    checkNamed(tokens, keyword + 1, plan.fronts.find(tokens.valueAt(keyword + 1)));
                    break;
                case SERVE:
                case SEATED:
                case CONTENT:
                    checkNamed(tokens, keyword + 1, plan.guests.find(tokens.valueAt(keyword + 1)));
                    break;
                default:
                    break;
            }
        }

        private static void checkNamed(Tokens tokens, int name, int which) {
            tokens.failUnless(which >= 0, NOT_TOLD, name);
            tokens.setValue(name, which);
        }

        // name is warm|cold force number at number for number
        private static void checkFront(Tokens tokens, int name, Fronts fronts) {
            long called = tokens.valueAt(name);
            tokens.failUnless(fronts.find(called) < 0, TOLD_TWICE, name);
            tokens.failUnless(fronts.count < MOST_FRONTS, TOO_MANY, name);
            boolean warm = tokens.kindAt(name + 2) == Kind.WARM;
            int force = numberIn(tokens, name + 4, 1, 9);
            int from = numberIn(tokens, name + 6, 0, 60);
            int hours = numberIn(tokens, name + 8, 1, 12);
            fronts.add(called, warm, force, from, hours);
        }

        // name at number likes number to number nerve number
        private static void checkGuest(Tokens tokens, int name, Guests guests) {
            long called = tokens.valueAt(name);
            tokens.failUnless(guests.find(called) < 0, TOLD_TWICE, name);
            tokens.failUnless(guests.count < MOST_GUESTS, TOO_MANY, name);
            int from = numberIn(tokens, name + 2, 0, 60);
            int weakest = numberIn(tokens, name + 4, 0, 30);
            int strongest = numberIn(tokens, name + 6, weakest, 30);
            int nerve = numberIn(tokens, name + 8, 0, 20);
            guests.add(called, from, weakest, strongest, nerve);
        }

        private static int numberIn(Tokens tokens, int token, int least, int most) {
            int number = (int) tokens.valueAt(token);
            tokens.failUnless(number >= least && number <= most, OUT_OF_RANGE, token);
            return number;
        }
    }

    /** All that was told. */
    private static final class Plan {
        final Fronts fronts;
        final Guests guests;
        final Orders orders;

        Plan() {
            fronts = new Fronts();
            guests = new Guests();
            orders = new Orders();
        }

        void clear() {
            fronts.count = 0;
            guests.count = 0;
            orders.count = 0;
            orders.steps = 0;
        }
    }

    private static final class Fronts {
        private final long[] names;
        final boolean[] warm;
        final int[] force;
        final int[] from;
        final int[] hours;
        int count;

        Fronts() {
            names = new long[MOST_FRONTS];
            warm = new boolean[MOST_FRONTS];
            force = new int[MOST_FRONTS];
            from = new int[MOST_FRONTS];
            hours = new int[MOST_FRONTS];
        }

        boolean has(int front) {
            return front >= 0 && front < count && front < MOST_FRONTS;
        }

        int find(long name) {
            for (int i = 0; i < count; i++) {
                if (names[i] == name) {
                    return i;
                }
            }
            return -1;
        }

        void add(long name, boolean isWarmOne, int itsForce, int itsHour, int itsHours) {
            if (count < MOST_FRONTS) {
                names[count] = name;
                warm[count] = isWarmOne;
                force[count] = itsForce;
                from[count] = itsHour;
                hours[count] = itsHours;
                count++;
            }
        }
    }

    private static final class Guests {
        private final long[] names;
        final int[] from;
        final int[] weakest;
        final int[] strongest;
        final int[] nerve;
        int count;

        Guests() {
            names = new long[MOST_GUESTS];
            from = new int[MOST_GUESTS];
            weakest = new int[MOST_GUESTS];
            strongest = new int[MOST_GUESTS];
            nerve = new int[MOST_GUESTS];
        }

        boolean has(int guest) {
            return guest >= 0 && guest < count && guest < MOST_GUESTS;
        }

        int find(long name) {
            for (int i = 0; i < count; i++) {
                if (names[i] == name) {
                    return i;
                }
            }
            return -1;
        }

        void add(long name, int itsHour, int likesFrom, int likesTo, int itsNerve) {
            if (count < MOST_GUESTS) {
                names[count] = name;
                from[count] = itsHour;
                weakest[count] = likesFrom;
                strongest[count] = likesTo;
                nerve[count] = itsNerve;
                count++;
            }
        }
    }

    /** Orders, and the steps of their tests: each operator stands behind what it is used on. */
    private static final class Orders {
        final Kind[] deeds;
        /** The front or guest that a deed is for; till resolve() the token that names it. */
        final int[] targets;
        final int[] firstSteps;
        final int[] endSteps;
        final Kind[] stepKinds;
        /** The number, front or guest of a step; till resolve() the token that tells it. */
        final int[] stepValues;
        int count;
        int steps;

        Orders() {
            deeds = new Kind[MOST_ORDERS];
            targets = new int[MOST_ORDERS];
            firstSteps = new int[MOST_ORDERS];
            endSteps = new int[MOST_ORDERS];
            stepKinds = new Kind[MOST_TOKENS];
            stepValues = new int[MOST_TOKENS];
            for (int i = 0; i < MOST_ORDERS; i++) {
                deeds[i] = Kind.END;
            }
            for (int i = 0; i < MOST_TOKENS; i++) {
                stepKinds[i] = Kind.END;
            }
        }

        /** An order too many is not kept: the Checker tells it as an error. */
        void add(Kind deed, int targetToken) {
            if (count < MOST_ORDERS) {
                deeds[count] = deed;
                targets[count] = targetToken;
                firstSteps[count] = steps;
                endSteps[count] = steps;
                count++;
            }
        }

        void endTest() {
            if (count > 0 && count <= MOST_ORDERS) {
                endSteps[count - 1] = steps;
            }
        }

        /** Returns whether there was room; there is, as no token makes more than one step. */
        boolean addStep(Kind kind, int valueToken) {
            if (steps >= MOST_TOKENS) {
                return false;
            }
            stepKinds[steps] = kind;
            stepValues[steps] = valueToken;
            steps++;
            return true;
        }

        void resolve(Tokens tokens) {
            for (int i = 0; i < count; i++) {
                targets[i] = (int) tokens.valueAt(targets[i]);
            }
            for (int i = 0; i < steps; i++) {
                stepValues[i] = (int) tokens.valueAt(stepValues[i]);
            }
        }
    }

    /** Reckons whether the test of an order holds. */
    private static final class Reckoner {
        private final int[] stack;
        private int height;

        Reckoner() {
            stack = new int[MOST_TOKENS];
        }

        boolean holds(Orders orders, int order, Pot pot) {
            height = 0;
            for (int i = orders.firstSteps[order]; i < orders.endSteps[order]; i++) {
                step(orders.stepKinds[i], orders.stepValues[i], pot);
            }
            // An order without a test leaves nothing here.
            return height == 0 || pop() != 0;
        }

        private void push(int value) {
            if (height < MOST_TOKENS) {
                stack[height] = value;
                height++;
            }
        }

        private int pop() {
            if (height <= 0) {
                return 0;
            }
            height--;
            return stack[height];
        }

        private void step(Kind kind, int value, Pot pot) {
            switch (kind) {
                case NUMBER:
                    push(value);
                    break;
                case HOUR:
                case WARMTH:
                case STRENGTH:
                case CHARGE:
                case LEMONS:
                case SAUCERS:
                case STORMS:
                case FORCE:
                case OVER:
                case SEATED:
                case CONTENT:
                    push(pot.standsFor(kind, value));
                    break;
                case NOT:
                    push(oneIf(pop() == 0));
                    break;
                case TURNED:
                    push(-pop());
                    break;
                default:
                    joinTwo(kind);
                    break;
            }
        }

        private void joinTwo(Kind sign) {
            int right = pop();
            int left = pop();
            push(join(sign, left, right));
        }

        private static int join(Kind sign, int left, int right) {
            switch (sign) {
                case PLUS:
                    return left + right;
                case MINUS:
                    return left - right;
                case TIMES:
                    return left * right;
                case DIVIDED:
                    return right == 0 ? 0 : left / right;
                case MIN:
                    return Math.min(left, right);
                case MAX:
                    return Math.max(left, right);
                case LESS:
                    return oneIf(left < right);
                case MORE:
                    return oneIf(left > right);
                case EQUAL:
                    return oneIf(left == right);
                case AT_MOST:
                    return oneIf(left <= right);
                case AT_LEAST:
                    return oneIf(left >= right);
                case AND:
                    return left & right;
                case OR:
                    return left | right;
                default:
                    return 0;
            }
        }
    }

    /** The pot as it is, or as it would be. */
    private static final class Pot {
        private final Reckoner reckoner;
        Plan plan;
        int hour;
        int warmth;
        int strength;
        int charge;
        int lemons;
        int saucers;
        int coins;
        int storms;
        final boolean[] frontSteeped;
        final boolean[] guestServed;
        final boolean[] guestStormed;

        Pot() {
            reckoner = new Reckoner();
            plan = new Plan();
            warmth = USUAL_WARMTH;
            lemons = LEMONS_AT_FIRST;
            saucers = SAUCERS_AT_FIRST;
            frontSteeped = new boolean[MOST_FRONTS];
            guestServed = new boolean[MOST_GUESTS];
            guestStormed = new boolean[MOST_GUESTS];
        }

        void begin(Plan told) {
            plan = told;
            hour = 0;
            warmth = USUAL_WARMTH;
            strength = 0;
            charge = 0;
            lemons = LEMONS_AT_FIRST;
            saucers = SAUCERS_AT_FIRST;
            coins = 0;
            storms = 0;
            for (int i = 0; i < MOST_FRONTS; i++) {
                frontSteeped[i] = false;
            }
            for (int i = 0; i < MOST_GUESTS; i++) {
                guestServed[i] = false;
                guestStormed[i] = false;
            }
        }

        void copyFrom(Pot other) {
            plan = other.plan;
            hour = other.hour;
            warmth = other.warmth;
            strength = other.strength;
            charge = other.charge;
            lemons = other.lemons;
            saucers = other.saucers;
            coins = other.coins;
            storms = other.storms;
            for (int i = 0; i < MOST_FRONTS; i++) {
                frontSteeped[i] = other.frontSteeped[i];
            }
            for (int i = 0; i < MOST_GUESTS; i++) {
                guestServed[i] = other.guestServed[i];
                guestStormed[i] = other.guestStormed[i];
            }
        }

        boolean hangsOver(int front) {
            Fronts fronts = plan.fronts;
            return fronts.has(front) && !frontSteeped[front]
                    && hour >= fronts.from[front] && hour < fronts.from[front] + fronts.hours[front];
        }

        boolean sits(int guest) {
            Guests guests = plan.guests;
            return guests.has(guest) && !guestServed[guest] && !guestStormed[guest]
                    && hour >= guests.from[guest] && hour < guests.from[guest] + SEATED_HOURS;
        }

        /** Whether this guest is content, or would be, with tea as strong as that. */
        boolean wouldLike(int guest, int tea) {
            return sits(guest) && warmth >= PLEASANT_WARMTH
                    && tea >= plan.guests.weakest[guest] && tea <= plan.guests.strongest[guest];
        }

        int contentIfSteeped(int front) {
            int tea = strengthWith(front);
            int content = 0;
            for (int i = 0; i < plan.guests.count; i++) {
                content += oneIf(wouldLike(i, tea));
            }
            return content;
        }

        private int strengthWith(int front) {
            int force = plan.fronts.has(front) ? plan.fronts.force[front] : 0;
            return Math.min(MOST_STRENGTH, strength + force);
        }

        /** What a word of a test stands for; things that are so count 1, others 0. */
        int standsFor(Kind kind, int which) {
            switch (kind) {
                case HOUR:
                    return hour;
                case WARMTH:
                    return warmth;
                case STRENGTH:
                    return strength;
                case CHARGE:
                    return charge;
                case LEMONS:
                    return lemons;
                case SAUCERS:
                    return saucers;
                case STORMS:
                    return storms;
                case FORCE:
                    return plan.fronts.has(which) ? plan.fronts.force[which] : 0;
                case OVER:
                    return oneIf(hangsOver(which));
                case SEATED:
                    return oneIf(sits(which));
                case CONTENT:
                    return oneIf(wouldLike(which, strength));
                default:
                    return 0;
            }
        }

        // The four deeds return whether they could be done.

        boolean steepFront(int front) {
            if (!hangsOver(front)) {
                return false;
            }
            strength = strengthWith(front);
            frontSteeped[front] = true;
            return true;
        }

        boolean squeezeLemon() {
            if (lemons <= 0) {
                return false;
            }
            lemons--;
            charge = Math.min(MOST_CHARGE, charge + LEMON_CHARGE);
            return true;
        }

        boolean putSaucer() {
            if (saucers <= 0) {
                return false;
            }
            saucers--;
            charge = Math.max(0, charge - SAUCER_CHARGE);
            return true;
        }

        boolean serveGuest(int guest) {
            if (!wouldLike(guest, strength)) {
                return false;
            }
            coins += strength;
            guestServed[guest] = true;
            strength = Math.max(0, strength - CUP_STRENGTH);
            return true;
        }

        void passHour() {
            for (int i = 0; i < plan.orders.count; i++) {
                if (reckoner.holds(plan.orders, i, this)) {
                    follow(plan.orders.deeds[i], plan.orders.targets[i]);
                }
            }
            blow();
            if (charge >= STORM_CHARGE) {
                storm();
            }
            // Who comes and goes is told by the hour alone.
            hour++;
        }

        private void follow(Kind deed, int target) {
            switch (deed) {
                case STEEP:
                    steepFront(target);
                    break;
                case LEMON:
                    squeezeLemon();
                    break;
                case SAUCER:
                    putSaucer();
                    break;
                case SERVE:
                    serveGuest(target);
                    break;
                default:
                    break;
            }
        }

        private void blow() {
            int warmForce = 0;
            int coldForce = 0;
            for (int i = 0; i < plan.fronts.count; i++) {
                if (hangsOver(i) && plan.fronts.warm[i]) {
                    warmForce += plan.fronts.force[i];
                } else if (hangsOver(i)) {
                    coldForce += plan.fronts.force[i];
                }
            }
            if (warmForce + coldForce > 0) {
                warmth = Math.max(0, Math.min(MOST_WARMTH, warmth + warmForce - coldForce));
            } else {
                warmth += Integer.compare(USUAL_WARMTH, warmth);
            }
            charge = Math.min(MOST_CHARGE, charge + Math.min(warmForce, coldForce));
        }

        private void storm() {
            for (int i = 0; i < plan.guests.count; i++) {
                if (sits(i) && plan.guests.nerve[i] < charge) {
                    guestStormed[i] = true;
                }
            }
            storms++;
            strength /= 2;
            charge -= STORM_CHARGE;
        }
    }
}
