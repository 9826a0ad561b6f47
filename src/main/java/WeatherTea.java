/** A machine that brews weather tea. */
public final class WeatherTea {

    private static final int TAPE_BYTES = 2000;
    private static final int FED_BYTES = 20;
    private static final int WORD_BYTES = 10;
    private static final int NUMBER_BYTES = 6;
    private static final int MOST_TOKENS = 400;
    private static final int MOST_DEPTH = 8;
    private static final int MOST_FRONTS = 10;
    private static final int MOST_GUESTS = 10;
    private static final int MOST_ORDERS = 16;

    private static final int MOST_WARMTH = 40;
    private static final int MOST_STRENGTH = 30;
    private static final int MOST_CHARGE = 30;
    private static final int USUAL_WARMTH = 20;
    private static final int PLEASANT_WARMTH = 15;
    private static final int LEMONS_AT_FIRST = 3;
    private static final int SAUCERS_AT_FIRST = 3;
    private static final int LEMON_CHARGE = 6;
    private static final int SAUCER_CHARGE = 5;
    private static final int CUP_STRENGTH = 3;
    private static final int STORM_CHARGE = 12;
    private static final int SEATED_HOURS = 8;

    private static final int MOST_HOURS = 30;
    private static final int FORESEEN_HOURS = 60;

    private static final int NOT_A_PLAN = 1;
    private static final int TOLD_TWICE = 2;
    private static final int NOT_TOLD = 3;
    private static final int TOO_MANY = 4;
    private static final int OUT_OF_RANGE = 5;

    private static final Kind[] KINDS = Kind.values();

    private final Tape tape;
    private final Tokens tokens;
    private final Grammar grammar;
    private final Checker checker;
    private final Pot pot;
    /** A second pot for what would be, made once, so that looking ahead makes no objects. */
    private final Pot trial;
    private Plan plan;
    /** Where teach() builds, so that a plan with an error leaves the present one alone. */
    private Plan draft;
    private int errorPosition;

    public WeatherTea() {
        tape = new Tape();
        tokens = new Tokens();
        grammar = new Grammar(tokens);
        checker = new Checker(tokens);
        plan = new Plan();
        draft = new Plan();
        pot = new Pot(plan);
        trial = new Pot(plan);
        errorPosition = -1;
    }

    // ---- the language

    public int feed(int a, int b, int c, int d, int e) throws IllegalStateException {
        if (tape.length + FED_BYTES > TAPE_BYTES) {
            throw new IllegalStateException("the tape would be too long");
        }
        tape.append(a);
        tape.append(b);
        tape.append(c);
        tape.append(d);
        tape.append(e);
        return tape.length;
    }

    public int trim(int n) throws IllegalArgumentException {
        if (n < 0 || n > tape.length) {
            throw new IllegalArgumentException("the tape has not so many bytes");
        }
        tape.length = n;
        return n;
    }

    public int teach() {
        tokens.readAll(tape);
        tape.length = 0;
        int error = readDraft();
        if (error == 0) {
            Plan old = plan;
            plan = draft;
            draft = old;
            pot.begin(plan);
        }
        return error;
    }

    private int readDraft() {
        draft.clear();
        if (!grammar.fits(draft.orders)) {
            errorPosition = tokens.startAt(grammar.at);
            return NOT_A_PLAN;
        }
        int error = checker.check(draft);
        if (error != 0) {
            errorPosition = tokens.startAt(checker.errorToken);
            return error;
        }
        draft.orders.resolve(tokens);
        errorPosition = -1;
        return 0;
    }

    public int errorAt() {
        return errorPosition;
    }

    // ---- the pot

    public int fronts() {
        return plan.fronts.count;
    }

    public int guests() {
        return plan.guests.count;
    }

    public int hour() {
        return pot.hour;
    }

    public int warmth() {
        return pot.warmth;
    }

    public int strength() {
        return pot.strength;
    }

    public int charge() {
        return pot.charge;
    }

    public int lemons() {
        return pot.lemons;
    }

    public int saucers() {
        return pot.saucers;
    }

    public int coins() {
        return pot.coins;
    }

    public int storms() {
        return pot.storms;
    }

    public int seatedGuests() {
        int seated = 0;
        for (int i = 0; i < plan.guests.count; i++) {
            seated += oneIf(pot.sits(i));
        }
        return seated;
    }

    public int served() {
        return countTrue(pot.guestServed, plan.guests.count);
    }

    public int stormed() {
        return countTrue(pot.guestStormed, plan.guests.count);
    }

    // ---- fronts

    public boolean isWarm(int front) throws IndexOutOfBoundsException {
        requireFront(front);
        return plan.fronts.warm[front];
    }

    public int forceOf(int front) throws IndexOutOfBoundsException {
        requireFront(front);
        return plan.fronts.force[front];
    }

    public boolean isOver(int front) throws IndexOutOfBoundsException {
        requireFront(front);
        return pot.hangsOver(front);
    }

    public boolean isSteeped(int front) throws IndexOutOfBoundsException {
        requireFront(front);
        return pot.frontSteeped[front];
    }

    // ---- guests

    public boolean isSeated(int guest) throws IndexOutOfBoundsException {
        requireGuest(guest);
        return pot.sits(guest);
    }

    public boolean isContent(int guest) throws IndexOutOfBoundsException {
        requireGuest(guest);
        return pot.wouldLike(guest, pot.strength);
    }

    public boolean wasServed(int guest) throws IndexOutOfBoundsException {
        requireGuest(guest);
        return pot.guestServed[guest];
    }

    public boolean wasStormed(int guest) throws IndexOutOfBoundsException {
        requireGuest(guest);
        return pot.guestStormed[guest];
    }

    // ---- by hand

    public int steep(int front) throws IndexOutOfBoundsException, IllegalStateException {
        requireFront(front);
        if (!pot.steepFront(front)) {
            throw new IllegalStateException("the front is not over the pot");
        }
        return pot.strength;
    }

    public int lemon() throws IllegalStateException {
        if (!pot.squeezeLemon()) {
            throw new IllegalStateException("there is no lemon");
        }
        return pot.charge;
    }

    public int saucer() throws IllegalStateException {
        if (!pot.putSaucer()) {
            throw new IllegalStateException("there is no saucer");
        }
        return pot.charge;
    }

    public int serve(int guest) throws IndexOutOfBoundsException, IllegalStateException {
        requireGuest(guest);
        int before = pot.coins;
        if (!pot.serveGuest(guest)) {
            throw new IllegalStateException("the guest is not content");
        }
        return pot.coins - before;
    }

    public int heat(int warmth) throws IllegalArgumentException {
        if (warmth < 0 || warmth > MOST_WARMTH) {
            throw new IllegalArgumentException("tea is not so cold or so warm");
        }
        int before = pot.warmth;
        pot.warmth = warmth;
        return before;
    }

    // ---- hours and what would be

    public int passHours(int hours) throws IllegalArgumentException {
        requireHours(hours);
        int before = pot.storms;
        for (int i = 0; i < hours; i++) {
            pot.passHour();
        }
        return pot.storms - before;
    }

    public int coinsAfter(int hours) throws IllegalArgumentException {
        requireHours(hours);
        trial.copyFrom(pot);
        for (int i = 0; i < hours; i++) {
            trial.passHour();
        }
        return trial.coins;
    }

    public int hoursUntilStorm() {
        trial.copyFrom(pot);
        for (int hours = 1; hours <= FORESEEN_HOURS; hours++) {
            trial.passHour();
            if (trial.storms > pot.storms) {
                return hours;
            }
        }
        return -1;
    }

    public int hoursUntilServed(int guest) throws IndexOutOfBoundsException {
        requireGuest(guest);
        trial.copyFrom(pot);
        for (int hours = 0; hours < FORESEEN_HOURS; hours++) {
            if (trial.guestServed[guest]) {
                return hours;
            }
            trial.passHour();
        }
        return trial.guestServed[guest] ? FORESEEN_HOURS : -1;
    }

    public int bestToSteep() {
        int best = -1;
        int mostContent = -1;
        for (int i = 0; i < plan.fronts.count; i++) {
            if (pot.hangsOver(i)) {
                int content = pot.contentIfSteeped(i);
                if (content > mostContent) {
                    best = i;
                    mostContent = content;
                }
            }
        }
        return best;
    }

    public double meanForce() {
        int sum = 0;
        int over = 0;
        for (int i = 0; i < plan.fronts.count; i++) {
            if (pot.hangsOver(i)) {
                sum += plan.fronts.force[i];
                over++;
            }
        }
        return over == 0 ? 0.0 : (double) sum / over;
    }

    public long digest() {
        long d = 1033;
        d = d * 31 + fronts();
        d = d * 31 + guests();
        d = d * 31 + hour();
        d = d * 31 + warmth();
        d = d * 31 + strength();
        d = d * 31 + charge();
        d = d * 31 + lemons();
        d = d * 31 + saucers();
        d = d * 31 + coins();
        d = d * 31 + storms();
        d = d * 31 + seatedGuests();
        d = d * 31 + served();
        d = d * 31 + stormed();
        d = d * 31 + bestToSteep();
        for (int i = 0; i < plan.fronts.count; i++) {
            d = d * 31 + oneIf(pot.hangsOver(i));
            d = d * 31 + oneIf(pot.frontSteeped[i]);
        }
        for (int i = 0; i < plan.guests.count; i++) {
            d = d * 31 + oneIf(pot.sits(i));
            d = d * 31 + oneIf(pot.wouldLike(i, pot.strength));
            d = d * 31 + oneIf(pot.guestServed[i]);
            d = d * 31 + oneIf(pot.guestStormed[i]);
        }
        return d;
    }

    private void requireFront(int front) {
        if (!plan.fronts.has(front)) {
            throw new IndexOutOfBoundsException("there is no such front");
        }
    }

    private void requireGuest(int guest) {
        if (!plan.guests.has(guest)) {
            throw new IndexOutOfBoundsException("there is no such guest");
        }
    }

    private static void requireHours(int hours) {
        if (hours < 1 || hours > MOST_HOURS) {
            throw new IllegalArgumentException("hours go by 1 to 30 at a time");
        }
    }

    private static int oneIf(boolean so) {
        return so ? 1 : 0;
    }

    private static int countTrue(boolean[] row, int length) {
        int found = 0;
        for (int i = 0; i < length && i < row.length; i++) {
            found += oneIf(row[i]);
        }
        return found;
    }

    /** What a token can be, with its text if it has just one; a step of a test is told by one of these too. */
    private enum Kind {
        FRONT("front"), IS("is"), WARM("warm"), COLD("cold"), AT("at"), FOR("for"), FORCE("force"),
        GUEST("guest"), LIKES("likes"), TO("to"), NERVE("nerve"),
        STEEP("steep"), LEMON("lemon"), SAUCER("saucer"), SERVE("serve"), WHEN("when"),
        HOUR("hour"), WARMTH("warmth"), STRENGTH("strength"), CHARGE("charge"),
        LEMONS("lemons"), SAUCERS("saucers"), STORMS("storms"),
        SEATED("seated"), OVER("over"), CONTENT("content"), OF("of"),
        NOT("not"), AND("and"), OR("or"), MIN("min"), MAX("max"),
        OPEN("("), CLOSE(")"), OPEN_TEST("["), CLOSE_TEST("]"), SEMICOLON(";"), COMMA(","),
        PLUS("+"), MINUS("-"), TIMES("*"), DIVIDED("/"),
        LESS("<"), MORE(">"), EQUAL("="), AT_MOST("<="), AT_LEAST(">="),
        NAME(""), NUMBER(""),
        /** The end of the tape. */
        END(""),
        /** No token begins here, or one too long, or one too many. */
        BAD(""),
        /** Never on a tape: the step of a - in front of a value, which must not be taken for a difference. */
        TURNED("");

        final String text;

        Kind(String text) {
            this.text = text;
        }
    }

    private static final class Tape {
        private final byte[] bytes;
        int length;

        Tape() {
            bytes = new byte[TAPE_BYTES];
            length = 0;
        }

        void append(int number) {
            for (int shift = 24; shift >= 0 && length < TAPE_BYTES; shift -= 8) {
                bytes[length] = (byte) (number >> shift);
                length++;
            }
        }

        /** Behind the end stands 0, with which no token begins or goes on. */
        int byteAt(int at) {
            return at >= 0 && at < length && at < bytes.length ? bytes[at] : 0;
        }

        boolean hasText(int at, int size, String text) {
            if (text.length() != size) {
                return false;
            }
            for (int i = 0; i < size; i++) {
                if (byteAt(at + i) != text.charAt(i)) {
                    return false;
                }
            }
            return true;
        }
    }

    /** The tokens of a tape; the last one is always END or BAD. */
    private static final class Tokens {
        private final Kind[] kinds;
        private final int[] starts;
        /** What a number is; of a word a number that no other word has, and later which front or guest it names. */
        private final long[] values;
        int count;

        Tokens() {
            kinds = new Kind[MOST_TOKENS + 1];
            starts = new int[MOST_TOKENS + 1];
            values = new long[MOST_TOKENS + 1];
            count = 0;
            for (int i = 0; i <= MOST_TOKENS; i++) {
                kinds[i] = Kind.END;
            }
        }

        boolean has(int token) {
            return token >= 0 && token < count && token <= MOST_TOKENS;
        }

        Kind kindAt(int token) {
            return has(token) ? kinds[token] : Kind.END;
        }

        int startAt(int token) {
            return has(token) ? starts[token] : 0;
        }

        long valueAt(int token) {
            return has(token) ? values[token] : 0;
        }

        void setValue(int token, long value) {
            if (has(token)) {
                values[token] = value;
            }
        }

        void readAll(Tape tape) {
            count = 0;
            int at = behindBlanks(tape, 0);
            for (int i = 0; i < MOST_TOKENS && at < tape.length; i++) {
                int size = sizeOf(tape, at);
                Kind kind = kindOf(tape, at, size);
                if (kind == Kind.BAD) {
                    break;
                }
                add(kind, at, valueOf(tape, at, size));
                at = behindBlanks(tape, at + size);
            }
            add(at < tape.length ? Kind.BAD : Kind.END, at, 0);
        }

        private void add(Kind kind, int start, long value) {
            if (count <= MOST_TOKENS) {
                kinds[count] = kind;
                starts[count] = start;
                values[count] = value;
                count++;
            }
        }

        private static int behindBlanks(Tape tape, int from) {
            int at = from;
            while (at < tape.length && (tape.byteAt(at) == ' ' || tape.byteAt(at) == '\n')) {
                at++;
            }
            return at;
        }

        private static int sizeOf(Tape tape, int start) {
            int first = tape.byteAt(start);
            if (!isLetter(first) && !isDigit(first)) {
                return (first == '<' || first == '>') && tape.byteAt(start + 1) == '=' ? 2 : 1;
            }
            int end = start + 1;
            while (end < tape.length
                    && (isDigit(tape.byteAt(end)) || isLetter(first) && isLetter(tape.byteAt(end)))) {
                end++;
            }
            return end - start;
        }

        private static Kind kindOf(Tape tape, int start, int size) {
            int first = tape.byteAt(start);
            if (isDigit(first)) {
                return size > NUMBER_BYTES ? Kind.BAD : Kind.NUMBER;
            }
            if (isLetter(first) && size > WORD_BYTES) {
                return Kind.BAD;
            }
            for (int i = 0; i < KINDS.length; i++) {
                if (tape.hasText(start, size, KINDS[i].text)) {
                    return KINDS[i];
                }
            }
            return isLetter(first) ? Kind.NAME : Kind.BAD;
        }

        private static long valueOf(Tape tape, int start, int size) {
            boolean number = isDigit(tape.byteAt(start));
            long value = 0;
            for (int i = 0; i < size; i++) {
                int sign = tape.byteAt(start + i);
                // Ten signs of 7 bits each do not fit, but ten of 37 do: words stay apart.
                value = number ? value * 10 + (sign - '0') : value * 37 + (isDigit(sign) ? sign - '0' : sign - 'a' + 10) + 1;
            }
            return value;
        }

        private static boolean isLetter(int sign) {
            return sign >= 'a' && sign <= 'z';
        }

        private static boolean isDigit(int sign) {
            return sign >= '0' && sign <= '9';
        }
    }

    /** Looks whether tokens are a plan, and writes down the orders with the steps of their tests. */
    private static final class Grammar {
        private final Tokens tokens;
        private Orders orders;
        /** The token to be looked at; if the tokens do not fit, the first with which they do not. */
        int at;

        Grammar(Tokens tokens) {
            this.tokens = tokens;
            this.orders = new Orders();
            this.at = 0;
        }

        boolean fits(Orders into) {
            orders = into;
            at = 0;
            for (int i = 0; i <= MOST_TOKENS && !is(Kind.END); i++) {
                if (!line() || !take(Kind.SEMICOLON)) {
                    return false;
                }
            }
            return is(Kind.END);
        }

        private boolean is(Kind kind) {
            return tokens.kindAt(at) == kind;
        }

        private boolean take(Kind kind) {
            if (!is(kind)) {
                return false;
            }
            at++;
            return true;
        }

        private boolean line() {
            if (take(Kind.FRONT)) {
                return take(Kind.NAME) && take(Kind.IS) && (take(Kind.WARM) || take(Kind.COLD))
                        && takeNumber(Kind.FORCE) && takeNumber(Kind.AT) && takeNumber(Kind.FOR);
            }
            if (take(Kind.GUEST)) {
                return take(Kind.NAME) && takeNumber(Kind.AT) && takeNumber(Kind.LIKES)
                        && takeNumber(Kind.TO) && takeNumber(Kind.NERVE);
            }
            return order();
        }

        private boolean takeNumber(Kind ahead) {
            return take(ahead) && take(Kind.NUMBER);
        }

        private boolean order() {
            Kind deed = tokens.kindAt(at);
            if (take(Kind.STEEP) || take(Kind.SERVE)) {
                orders.add(deed, at);
                if (!take(Kind.NAME)) {
                    return false;
                }
            } else if (take(Kind.LEMON) || take(Kind.SAUCER)) {
                orders.add(deed, at);
            } else {
                return false;
            }
            if (take(Kind.WHEN) && !test(0)) {
                return false;
            }
            orders.endTest();
            return true;
        }

        private boolean test(int depth) {
            boolean fits = both(depth);
            for (int i = 0; i < MOST_TOKENS && fits && take(Kind.OR); i++) {
                fits = both(depth) && orders.addStep(Kind.OR, at);
            }
            return fits;
        }

        private boolean both(int depth) {
            boolean fits = single(depth);
            for (int i = 0; i < MOST_TOKENS && fits && take(Kind.AND); i++) {
                fits = single(depth) && orders.addStep(Kind.AND, at);
            }
            return fits;
        }

        private boolean single(int depth) {
            Kind kind = tokens.kindAt(at);
            switch (kind) {
                case NOT:
                    return enter(Kind.NOT, depth) && single(depth + 1) && orders.addStep(Kind.NOT, at);
                case OPEN_TEST:
                    return enter(Kind.OPEN_TEST, depth) && test(depth + 1) && take(Kind.CLOSE_TEST);
                case OVER:
                case SEATED:
                case CONTENT:
                    at++;
                    return orders.addStep(kind, at) && take(Kind.NAME);
                default:
                    return comparison(depth);
            }
        }

        /** What opens a greater depth does not fit where the depth would be too great behind it. */
        private boolean enter(Kind opening, int depth) {
            return depth < MOST_DEPTH && take(opening);
        }

        private boolean comparison(int depth) {
            if (!sum(depth)) {
                return false;
            }
            Kind sign = tokens.kindAt(at);
            boolean fits = take(Kind.LESS) || take(Kind.MORE) || take(Kind.EQUAL)
                    || take(Kind.AT_MOST) || take(Kind.AT_LEAST);
            return fits && sum(depth) && orders.addStep(sign, at);
        }

        private boolean sum(int depth) {
            boolean fits = product(depth);
            for (int i = 0; i < MOST_TOKENS && fits && (is(Kind.PLUS) || is(Kind.MINUS)); i++) {
                Kind sign = tokens.kindAt(at);
                at++;
                fits = product(depth) && orders.addStep(sign, at);
            }
            return fits;
        }

        private boolean product(int depth) {
            boolean fits = value(depth);
            for (int i = 0; i < MOST_TOKENS && fits && (is(Kind.TIMES) || is(Kind.DIVIDED)); i++) {
                Kind sign = tokens.kindAt(at);
                at++;
                fits = value(depth) && orders.addStep(sign, at);
            }
            return fits;
        }

        private boolean value(int depth) {
            Kind kind = tokens.kindAt(at);
            switch (kind) {
                case NUMBER:
                case HOUR:
                case WARMTH:
                case STRENGTH:
                case CHARGE:
                case LEMONS:
                case SAUCERS:
                case STORMS:
                    return orders.addStep(kind, at) && take(kind);
                case FORCE:
                    at++;
                    return take(Kind.OF) && orders.addStep(Kind.FORCE, at) && take(Kind.NAME);
                case MINUS:
                    return enter(Kind.MINUS, depth) && value(depth + 1) && orders.addStep(Kind.TURNED, at);
                case OPEN:
                    return enter(Kind.OPEN, depth) && sum(depth + 1) && take(Kind.CLOSE);
                case MIN:
                case MAX:
                    at++;
                    return enter(Kind.OPEN, depth) && sum(depth + 1) && take(Kind.COMMA) && sum(depth + 1)
                            && take(Kind.CLOSE) && orders.addStep(kind, at);
                default:
                    return false;
            }
        }
    }

    /** Looks at the keywords, names and numbers of tokens that are a plan, and writes down fronts and guests. */
    private static final class Checker {
        private final Tokens tokens;
        private int error;
        private int ordersSeen;
        int errorToken;

        Checker(Tokens tokens) {
            this.tokens = tokens;
            this.error = 0;
            this.ordersSeen = 0;
            this.errorToken = 0;
        }

        int check(Plan plan) {
            error = 0;
            ordersSeen = 0;
            for (int i = 0; i < tokens.count && error == 0; i++) {
                checkAt(i, plan);
            }
            return error;
        }

        private void checkAt(int token, Plan plan) {
            switch (tokens.kindAt(token)) {
                case FRONT:
                    checkFront(token, plan.fronts);
                    break;
                case GUEST:
                    checkGuest(token, plan.guests);
                    break;
                case STEEP:
                    countOrder(token);
                    nameFront(token + 1, plan.fronts);
                    break;
                case SERVE:
                    countOrder(token);
                    nameGuest(token + 1, plan.guests);
                    break;
                case LEMON:
                case SAUCER:
                    countOrder(token);
                    break;
                case OVER:
                case OF:
                    nameFront(token + 1, plan.fronts);
                    break;
                case SEATED:
                case CONTENT:
                    nameGuest(token + 1, plan.guests);
                    break;
                default:
                    break;
            }
        }

        /** Only the first error counts: a later one does not take its place. */
        private void fail(int number, int token) {
            if (error == 0) {
                error = number;
                errorToken = token;
            }
        }

        private void failUnless(boolean right, int number, int token) {
            if (!right) {
                fail(number, token);
            }
        }

        private void countOrder(int token) {
            ordersSeen++;
            failUnless(ordersSeen <= MOST_ORDERS, TOO_MANY, token);
        }

        private void nameFront(int token, Fronts fronts) {
            int front = fronts.find(tokens.valueAt(token));
            failUnless(front >= 0, NOT_TOLD, token);
            tokens.setValue(token, front);
        }

        private void nameGuest(int token, Guests guests) {
            int guest = guests.find(tokens.valueAt(token));
            failUnless(guest >= 0, NOT_TOLD, token);
            tokens.setValue(token, guest);
        }

        private int numberAt(int token, int least, int most) {
            int number = (int) tokens.valueAt(token);
            failUnless(number >= least && number <= most, OUT_OF_RANGE, token);
            return number;
        }

        // front NAME is KIND force NUMBER at NUMBER for NUMBER
        private void checkFront(int token, Fronts fronts) {
            long name = tokens.valueAt(token + 1);
            failUnless(fronts.find(name) < 0, TOLD_TWICE, token + 1);
            failUnless(fronts.count < MOST_FRONTS, TOO_MANY, token + 1);
            boolean warm = tokens.kindAt(token + 3) == Kind.WARM;
            int force = numberAt(token + 5, 1, 9);
            int from = numberAt(token + 7, 0, 60);
            int hours = numberAt(token + 9, 1, 12);
            if (error == 0) {
                fronts.add(name, warm, force, from, hours);
            }
        }

        // guest NAME at NUMBER likes NUMBER to NUMBER nerve NUMBER
        private void checkGuest(int token, Guests guests) {
            long name = tokens.valueAt(token + 1);
            failUnless(guests.find(name) < 0, TOLD_TWICE, token + 1);
            failUnless(guests.count < MOST_GUESTS, TOO_MANY, token + 1);
            int from = numberAt(token + 3, 0, 60);
            int weakest = numberAt(token + 5, 0, 30);
            int strongest = numberAt(token + 7, weakest, 30);
            int nerve = numberAt(token + 9, 0, 20);
            if (error == 0) {
                guests.add(name, from, weakest, strongest, nerve);
            }
        }
    }

    /** All that was told. */
    private static final class Plan {
        final Fronts fronts;
        final Guests guests;
        final Orders orders;

        Plan() {
            fronts = new Fronts();
            guests = new Guests();
            orders = new Orders();
        }

        void clear() {
            fronts.count = 0;
            guests.count = 0;
            orders.count = 0;
            orders.steps = 0;
        }
    }

    private static final class Fronts {
        private final long[] names;
        final boolean[] warm;
        final int[] force;
        final int[] from;
        final int[] hours;
        int count;

        Fronts() {
            names = new long[MOST_FRONTS];
            warm = new boolean[MOST_FRONTS];
            force = new int[MOST_FRONTS];
            from = new int[MOST_FRONTS];
            hours = new int[MOST_FRONTS];
            count = 0;
        }

        boolean has(int front) {
            return front >= 0 && front < count && front < MOST_FRONTS;
        }

        int find(long name) {
            for (int i = 0; i < count; i++) {
                if (names[i] == name) {
                    return i;
                }
            }
            return -1;
        }

        void add(long name, boolean isWarmOne, int itsForce, int itsHour, int itsHours) {
            if (count < MOST_FRONTS) {
                names[count] = name;
                warm[count] = isWarmOne;
                force[count] = itsForce;
                from[count] = itsHour;
                hours[count] = itsHours;
                count++;
            }
        }
    }

    private static final class Guests {
        private final long[] names;
        final int[] from;
        final int[] weakest;
        final int[] strongest;
        final int[] nerve;
        int count;

        Guests() {
            names = new long[MOST_GUESTS];
            from = new int[MOST_GUESTS];
            weakest = new int[MOST_GUESTS];
            strongest = new int[MOST_GUESTS];
            nerve = new int[MOST_GUESTS];
            count = 0;
        }

        boolean has(int guest) {
            return guest >= 0 && guest < count && guest < MOST_GUESTS;
        }

        int find(long name) {
            for (int i = 0; i < count; i++) {
                if (names[i] == name) {
                    return i;
                }
            }
            return -1;
        }

        void add(long name, int itsHour, int likesFrom, int likesTo, int itsNerve) {
            if (count < MOST_GUESTS) {
                names[count] = name;
                from[count] = itsHour;
                weakest[count] = likesFrom;
                strongest[count] = likesTo;
                nerve[count] = itsNerve;
                count++;
            }
        }
    }

    /** Orders, and the steps of their tests: each operator stands behind what it is used on. */
    private static final class Orders {
        final Kind[] deeds;
        /** The front or guest that a deed is for; till resolve() the token that names it. */
        final int[] targets;
        final int[] firstSteps;
        final int[] endSteps;
        final Kind[] stepKinds;
        /** The number, front or guest of a step; till resolve() the token that tells it. */
        final int[] stepValues;
        int count;
        int steps;

        Orders() {
            deeds = new Kind[MOST_ORDERS];
            targets = new int[MOST_ORDERS];
            firstSteps = new int[MOST_ORDERS];
            endSteps = new int[MOST_ORDERS];
            stepKinds = new Kind[MOST_TOKENS];
            stepValues = new int[MOST_TOKENS];
            count = 0;
            steps = 0;
            for (int i = 0; i < MOST_ORDERS; i++) {
                deeds[i] = Kind.END;
            }
            for (int i = 0; i < MOST_TOKENS; i++) {
                stepKinds[i] = Kind.END;
            }
        }

        /** An order too many is not kept: the Checker tells it as an error. */
        void add(Kind deed, int targetToken) {
            if (count < MOST_ORDERS) {
                deeds[count] = deed;
                targets[count] = targetToken;
                firstSteps[count] = steps;
                endSteps[count] = steps;
                count++;
            }
        }

        void endTest() {
            if (count > 0 && count <= MOST_ORDERS) {
                endSteps[count - 1] = steps;
            }
        }

        /** Returns whether there was room; there is, as no token makes more than one step. */
        boolean addStep(Kind kind, int valueToken) {
            if (steps >= MOST_TOKENS) {
                return false;
            }
            stepKinds[steps] = kind;
            stepValues[steps] = valueToken;
            steps++;
            return true;
        }

        void resolve(Tokens tokens) {
            for (int i = 0; i < count; i++) {
                targets[i] = (int) tokens.valueAt(targets[i]);
            }
            for (int i = 0; i < steps; i++) {
                stepValues[i] = (int) tokens.valueAt(stepValues[i]);
            }
        }
    }

    /** Reckons whether the test of an order holds. */
    private static final class Reckoner {
        private final int[] stack;
        private int height;

        Reckoner() {
            stack = new int[MOST_TOKENS];
            height = 0;
        }

        boolean holds(Orders orders, int order, Pot pot) {
            height = 0;
            for (int i = orders.firstSteps[order]; i < orders.endSteps[order]; i++) {
                step(orders.stepKinds[i], orders.stepValues[i], pot);
            }
            // An order without a test leaves nothing here.
            return height == 0 || pop() != 0;
        }

        private void push(int value) {
            if (height < MOST_TOKENS) {
                stack[height] = value;
                height++;
            }
        }

        private int pop() {
            if (height <= 0) {
                return 0;
            }
            height--;
            return stack[height];
        }

        private void step(Kind kind, int value, Pot pot) {
            switch (kind) {
                case NUMBER:
                    push(value);
                    break;
                case HOUR:
                case WARMTH:
                case STRENGTH:
                case CHARGE:
                case LEMONS:
                case SAUCERS:
                case STORMS:
                case FORCE:
                case OVER:
                case SEATED:
                case CONTENT:
                    push(pot.standsFor(kind, value));
                    break;
                case NOT:
                    push(oneIf(pop() == 0));
                    break;
                case TURNED:
                    push(-pop());
                    break;
                default:
                    int right = pop();
                    int left = pop();
                    push(join(kind, left, right));
                    break;
            }
        }

        private static int join(Kind sign, int left, int right) {
            switch (sign) {
                case PLUS:
                    return left + right;
                case MINUS:
                    return left - right;
                case TIMES:
                    return left * right;
                case DIVIDED:
                    return right == 0 ? 0 : left / right;
                case MIN:
                    return Math.min(left, right);
                case MAX:
                    return Math.max(left, right);
                case LESS:
                    return oneIf(left < right);
                case MORE:
                    return oneIf(left > right);
                case EQUAL:
                    return oneIf(left == right);
                case AT_MOST:
                    return oneIf(left <= right);
                case AT_LEAST:
                    return oneIf(left >= right);
                case AND:
                    return left & right;
                case OR:
                    return left | right;
                default:
                    return 0;
            }
        }
    }

    /** The pot as it is, or as it would be. */
    private static final class Pot {
        private final Reckoner reckoner;
        private Plan plan;
        int hour;
        int warmth;
        int strength;
        int charge;
        int lemons;
        int saucers;
        int coins;
        int storms;
        final boolean[] frontSteeped;
        final boolean[] guestServed;
        final boolean[] guestStormed;

        Pot(Plan plan) {
            this.reckoner = new Reckoner();
            this.plan = plan;
            this.warmth = USUAL_WARMTH;
            this.lemons = LEMONS_AT_FIRST;
            this.saucers = SAUCERS_AT_FIRST;
            this.frontSteeped = new boolean[MOST_FRONTS];
            this.guestServed = new boolean[MOST_GUESTS];
            this.guestStormed = new boolean[MOST_GUESTS];
        }

        void begin(Plan told) {
            plan = told;
            hour = 0;
            warmth = USUAL_WARMTH;
            strength = 0;
            charge = 0;
            lemons = LEMONS_AT_FIRST;
            saucers = SAUCERS_AT_FIRST;
            coins = 0;
            storms = 0;
            for (int i = 0; i < MOST_FRONTS; i++) {
                frontSteeped[i] = false;
            }
            for (int i = 0; i < MOST_GUESTS; i++) {
                guestServed[i] = false;
                guestStormed[i] = false;
            }
        }

        void copyFrom(Pot other) {
            plan = other.plan;
            hour = other.hour;
            warmth = other.warmth;
            strength = other.strength;
            charge = other.charge;
            lemons = other.lemons;
            saucers = other.saucers;
            coins = other.coins;
            storms = other.storms;
            for (int i = 0; i < MOST_FRONTS; i++) {
                frontSteeped[i] = other.frontSteeped[i];
            }
            for (int i = 0; i < MOST_GUESTS; i++) {
                guestServed[i] = other.guestServed[i];
                guestStormed[i] = other.guestStormed[i];
            }
        }

        boolean hangsOver(int front) {
            Fronts fronts = plan.fronts;
            return fronts.has(front) && !frontSteeped[front]
                    && hour >= fronts.from[front] && hour < fronts.from[front] + fronts.hours[front];
        }

        boolean sits(int guest) {
            Guests guests = plan.guests;
            return guests.has(guest) && !guestServed[guest] && !guestStormed[guest]
                    && hour >= guests.from[guest] && hour < guests.from[guest] + SEATED_HOURS;
        }

        /** Whether this guest is content, or would be, with tea as strong as that. */
        boolean wouldLike(int guest, int tea) {
            return sits(guest) && warmth >= PLEASANT_WARMTH
                    && tea >= plan.guests.weakest[guest] && tea <= plan.guests.strongest[guest];
        }

        int contentIfSteeped(int front) {
            int tea = strengthWith(front);
            int content = 0;
            for (int i = 0; i < plan.guests.count; i++) {
                content += oneIf(wouldLike(i, tea));
            }
            return content;
        }

        private int strengthWith(int front) {
            int force = plan.fronts.has(front) ? plan.fronts.force[front] : 0;
            return Math.min(MOST_STRENGTH, strength + force);
        }

        /** What a word of a test stands for; things that are so count 1, others 0. */
        int standsFor(Kind kind, int which) {
            switch (kind) {
                case HOUR:
                    return hour;
                case WARMTH:
                    return warmth;
                case STRENGTH:
                    return strength;
                case CHARGE:
                    return charge;
                case LEMONS:
                    return lemons;
                case SAUCERS:
                    return saucers;
                case STORMS:
                    return storms;
                case FORCE:
                    return plan.fronts.has(which) ? plan.fronts.force[which] : 0;
                case OVER:
                    return oneIf(hangsOver(which));
                case SEATED:
                    return oneIf(sits(which));
                case CONTENT:
                    return oneIf(wouldLike(which, strength));
                default:
                    return 0;
            }
        }

        // The four deeds return whether they could be done.

        boolean steepFront(int front) {
            if (!hangsOver(front)) {
                return false;
            }
            strength = strengthWith(front);
            frontSteeped[front] = true;
            return true;
        }

        boolean squeezeLemon() {
            if (lemons <= 0) {
                return false;
            }
            lemons--;
            charge = Math.min(MOST_CHARGE, charge + LEMON_CHARGE);
            return true;
        }

        boolean putSaucer() {
            if (saucers <= 0) {
                return false;
            }
            saucers--;
            charge = Math.max(0, charge - SAUCER_CHARGE);
            return true;
        }

        boolean serveGuest(int guest) {
            if (!wouldLike(guest, strength)) {
                return false;
            }
            coins += strength;
            guestServed[guest] = true;
            strength = Math.max(0, strength - CUP_STRENGTH);
            return true;
        }

        void passHour() {
            for (int i = 0; i < plan.orders.count; i++) {
                if (reckoner.holds(plan.orders, i, this)) {
                    follow(plan.orders.deeds[i], plan.orders.targets[i]);
                }
            }
            blow();
            if (charge >= STORM_CHARGE) {
                storm();
            }
            // Who comes and goes is told by the hour alone.
            hour++;
        }

        private void follow(Kind deed, int target) {
            switch (deed) {
                case STEEP:
                    steepFront(target);
                    break;
                case LEMON:
                    squeezeLemon();
                    break;
                case SAUCER:
                    putSaucer();
                    break;
                case SERVE:
                    serveGuest(target);
                    break;
                default:
                    break;
            }
        }

        private void blow() {
            int warmForce = 0;
            int coldForce = 0;
            for (int i = 0; i < plan.fronts.count; i++) {
                if (hangsOver(i) && plan.fronts.warm[i]) {
                    warmForce += plan.fronts.force[i];
                } else if (hangsOver(i)) {
                    coldForce += plan.fronts.force[i];
                }
            }
            if (warmForce + coldForce > 0) {
                warmth = Math.max(0, Math.min(MOST_WARMTH, warmth + warmForce - coldForce));
            } else {
                warmth += Integer.compare(USUAL_WARMTH, warmth);
            }
            charge = Math.min(MOST_CHARGE, charge + Math.min(warmForce, coldForce));
        }

        private void storm() {
            for (int i = 0; i < plan.guests.count; i++) {
                if (sits(i) && plan.guests.nerve[i] < charge) {
                    guestStormed[i] = true;
                }
            }
            storms++;
            strength /= 2;
            charge -= STORM_CHARGE;
        }
    }
}
