/** A registry of shadows that walls cast by law. The numbered promises of its document say what each call does. */
public final class ShadowRegistry {
    private static final int NONE = -1;

    private static final int MOST_BYTES = 2000;
    private static final int FEED_BYTES = 20;
    private static final int MOST_TOKENS = 400;
    private static final int LONGEST_WORD = 10;
    private static final int LONGEST_NUMBER = 6;
    private static final int MOST_DEPTH = 8;
    // One more than the 26 letters and 10 digits: with it ten signs fit a long, and no two words give the same number.
    private static final long WORD_BASE = 37;

    private static final int MOST_HOUSES = 12;
    private static final int MOST_LAWS = 16;
    private static final int LAST_PLACE = 99;
    private static final int GREATEST_HEIGHT = 30;

    private static final int HOURS_OF_DAY = 24;
    private static final int FIRST_HOUR = 6;
    private static final int NOON = 12;
    private static final int LAST_HOUR = 18;
    private static final int HOURS_OF_LIGHT = 13;
    private static final int MOST_STEPS = 6;
    private static final int MOST_DAYS = 30;

    private static final int ERROR_GRAMMAR = 1;
    private static final int ERROR_TOLD_TWICE = 2;
    private static final int ERROR_UNKNOWN = 3;
    private static final int ERROR_TOO_MANY = 4;
    private static final int ERROR_NUMBER = 5;

    private static final int ORDER_CURFEW = 0;
    private static final int ORDER_OPEN = 1;
    private static final int ORDER_RAISE = 2;

    private static final int OP_NUMBER = 0;
    private static final int OP_DAY = 1;
    private static final int OP_WORST = 2;
    private static final int OP_LOST = 3;
    private static final int OP_CAST = 4;
    private static final int OP_HEIGHT = 5;
    private static final int OP_SHADES = 6;
    private static final int OP_DARK = 7;
    private static final int LAST_LEAF = OP_DARK;
    private static final int OP_NEGATE = 8;
    private static final int OP_NOT = 9;
    private static final int LAST_OF_ONE_SIDE = OP_NOT;
    private static final int OP_ADD = 10;
    private static final int OP_SUBTRACT = 11;
    private static final int OP_MULTIPLY = 12;
    private static final int OP_DIVIDE = 13;
    private static final int OP_MIN = 14;
    private static final int OP_MAX = 15;
    private static final int OP_LESS = 16;
    private static final int OP_GREATER = 17;
    private static final int OP_EQUAL = 18;
    private static final int OP_LESS_EQUAL = 19;
    private static final int OP_GREATER_EQUAL = 20;
    private static final int OP_AND = 21;
    private static final int OP_OR = 22;

    private static final Kind[] KINDS = Kind.values();

    private final Tape tape;
    private final Book draft;
    private final Parser parser;
    private final Book told;
    private final Reckoner reckoner;
    private final Street street;
    // Where it is tried what would be: what is real stays untouched.
    private final Street trial;
    private int latestErrorAt;

    public ShadowRegistry() {
        tape = new Tape();
        draft = new Book();
        parser = new Parser(new Tokens(tape), draft);
        told = new Book();
        reckoner = new Reckoner(told);
        street = new Street();
        trial = new Street();
        latestErrorAt = NONE;
    }

    // ---- the language

    public int feed(int a, int b, int c, int d, int e) throws IllegalStateException {
        if (tape.length > MOST_BYTES - FEED_BYTES) {
            throw new IllegalStateException("the tape is full");
        }
        tape.append(a);
        tape.append(b);
        tape.append(c);
        tape.append(d);
        tape.append(e);
        return tape.length;
    }

    public int trim(int n) throws IllegalArgumentException {
        if (n < 0 || n > tape.length) {
            throw new IllegalArgumentException("the tape has not so many bytes");
        }
        tape.length = n;
        return n;
    }

    public int teach() {
        int error = parser.read();
        tape.length = 0;
        if (error != 0) {
            latestErrorAt = parser.flawAt;
            return error;
        }
        latestErrorAt = NONE;
        told.become(draft);
        street.beginWith(told);
        return 0;
    }

    public int errorAt() {
        return latestErrorAt;
    }

    // ---- the registry

    public int houses() {
        return street.count;
    }

    public int laws() {
        return told.lawCount;
    }

    public int days() {
        return street.daysGone;
    }

    public int lawsCarriedOut() {
        return street.carriedOut;
    }

    public int allHoursLost() {
        return street.lostInAll;
    }

    public int lightHouses() {
        int light = 0;
        for (int house = 0; house < street.count; house++) {
            if (street.lost(house) == 0) {
                light++;
            }
        }
        return light;
    }

    public int worstHouse() throws IllegalStateException {
        if (street.count == 0) {
            throw new IllegalStateException("there are no houses");
        }
        int worst = 0;
        for (int house = 1; house < street.count; house++) {
            if (street.lost(house) > street.lost(worst)) {
                worst = house;
            }
        }
        return worst;
    }

    public int darkestWall() throws IllegalStateException {
        if (street.count == 0) {
            throw new IllegalStateException("there are no houses");
        }
        int darkest = 0;
        for (int house = 1; house < street.count; house++) {
            if (street.cast(house) > street.cast(darkest)) {
                darkest = house;
            }
        }
        return darkest;
    }

    // ---- houses

    public int placeOf(int house) throws IndexOutOfBoundsException {
        checkHouse(house);
        return street.place(house);
    }

    public int heightOf(int house) throws IndexOutOfBoundsException {
        checkHouse(house);
        return street.height(house);
    }

    public int hoursLost(int house) throws IndexOutOfBoundsException {
        checkHouse(house);
        return street.lost(house);
    }

    public int castBy(int house) throws IndexOutOfBoundsException {
        checkHouse(house);
        return street.cast(house);
    }

    public boolean hasCurfew(int house) throws IndexOutOfBoundsException {
        checkHouse(house);
        return street.firstLow(house) != NONE;
    }

    public int curfewFrom(int house) throws IndexOutOfBoundsException, IllegalStateException {
        checkHouse(house);
        checkCurfew(house);
        return street.firstLow(house);
    }

    public int curfewTo(int house) throws IndexOutOfBoundsException, IllegalStateException {
        checkHouse(house);
        checkCurfew(house);
        return street.lastLow(house);
    }

    public int hoursLostTo(int house, int by) throws IndexOutOfBoundsException {
        checkHouse(house);
        checkHouse(by);
        return Integer.bitCount(street.hoursShaded(house, by));
    }

    // ---- hours

    public int heightAt(int house, int hour) throws IndexOutOfBoundsException {
        checkHouse(house);
        checkHour(hour);
        return street.wallAt(house, hour);
    }

    public int shadowOf(int house, int hour) throws IndexOutOfBoundsException {
        checkHouse(house);
        checkHour(hour);
        return street.reach(house, hour);
    }

    public boolean shades(int house, int other, int hour) throws IndexOutOfBoundsException {
        checkHouse(house);
        checkHouse(other);
        checkHour(hour);
        return holdsHour(street.hoursShaded(other, house), hour);
    }

    public boolean isInTheDark(int house, int hour) throws IndexOutOfBoundsException {
        checkHouse(house);
        checkHour(hour);
        return holdsHour(street.hoursDark(house), hour);
    }

    public int shadedBy(int house, int hour) throws IndexOutOfBoundsException, IllegalStateException {
        checkHouse(house);
        checkHour(hour);
        if (!holdsHour(street.hoursDark(house), hour)) {
            throw new IllegalStateException("it is not in the dark then");
        }
        int nearest = NONE;
        int fewestAway = LAST_PLACE + 1;
        for (int by = 0; by < street.count; by++) {
            int away = Math.abs(street.place(by) - street.place(house));
            if (away < fewestAway && holdsHour(street.hoursShaded(house, by), hour)) {
                fewestAway = away;
                nearest = by;
            }
        }
        return nearest;
    }

    public int housesInTheDark(int hour) throws IndexOutOfBoundsException {
        checkHour(hour);
        return countDark(hour);
    }

    // ---- by hand

    public int setCurfew(int house, int from, int to) throws IndexOutOfBoundsException, IllegalArgumentException {
        checkHouse(house);
        if (from < FIRST_HOUR || to > LAST_HOUR || to < from) {
            throw new IllegalArgumentException("these are no hours of a curfew");
        }
        street.giveCurfew(house, from, to);
        return street.lostInAll;
    }

    public int endCurfew(int house) throws IndexOutOfBoundsException, IllegalStateException {
        checkHouse(house);
        checkCurfew(house);
        street.giveCurfew(house, NONE, NONE);
        return street.lostInAll;
    }

    public int build(int house, int height) throws IndexOutOfBoundsException, IllegalArgumentException {
        checkHouse(house);
        if (height < 0 || height > GREATEST_HEIGHT) {
            throw new IllegalArgumentException("no wall has this height");
        }
        int before = street.height(house);
        street.giveHeight(house, height);
        return before;
    }

    public int move(int house, int place)
            throws IndexOutOfBoundsException, IllegalArgumentException, IllegalStateException {
        checkHouse(house);
        if (place < 0 || place > LAST_PLACE) {
            throw new IllegalArgumentException("the street has no such place");
        }
        for (int other = 0; other < street.count; other++) {
            if (other != house && street.place(other) == place) {
                throw new IllegalStateException("another house stands there");
            }
        }
        int before = street.place(house);
        street.givePlace(house, place);
        return before;
    }

    // ---- days and what would be

    public int passDays(int days) throws IllegalArgumentException {
        checkDays(days);
        int before = street.carriedOut;
        for (int day = 0; day < days; day++) {
            reckoner.passDay(street);
        }
        return street.carriedOut - before;
    }

    public int lostAfter(int days) throws IllegalArgumentException {
        checkDays(days);
        trial.become(street);
        for (int day = 0; day < days; day++) {
            reckoner.passDay(trial);
        }
        return trial.lostInAll;
    }

    public int daysUntilLight() {
        trial.become(street);
        for (int day = 0; day < MOST_DAYS; day++) {
            if (trial.lostInAll == 0) {
                return day;
            }
            reckoner.passDay(trial);
        }
        return trial.lostInAll == 0 ? MOST_DAYS : NONE;
    }

    public int fairCurfew(int house, int hours) throws IndexOutOfBoundsException, IllegalArgumentException {
        checkHouse(house);
        checkCurfewHours(hours);
        trial.become(street);
        int fairest = FIRST_HOUR;
        int fewest = MOST_HOUSES * HOURS_OF_LIGHT + 1;
        for (int from = FIRST_HOUR; from <= LAST_HOUR + 1 - hours; from++) {
            trial.giveCurfew(house, from, from + hours - 1);
            if (trial.lostInAll < fewest) {
                fewest = trial.lostInAll;
                fairest = from;
            }
        }
        return fairest;
    }

    public int fairestWall(int hours) throws IllegalArgumentException {
        checkCurfewHours(hours);
        int fairest = NONE;
        int fewest = street.lostInAll;
        for (int house = 0; house < street.count; house++) {
            trial.become(street);
            for (int from = FIRST_HOUR; from <= LAST_HOUR + 1 - hours; from++) {
                trial.giveCurfew(house, from, from + hours - 1);
                if (trial.lostInAll < fewest) {
                    fewest = trial.lostInAll;
                    fairest = house;
                }
            }
        }
        return fairest;
    }

    public double meanLost() {
        if (street.count == 0) {
            return 0;
        }
        return (double) street.lostInAll / street.count;
    }

    public long digest() {
        long d = 1013;
        d = d * 31 + houses();
        d = d * 31 + laws();
        d = d * 31 + days();
        d = d * 31 + lawsCarriedOut();
        d = d * 31 + allHoursLost();
        d = d * 31 + lightHouses();
        for (int house = 0; house < street.count; house++) {
            d = d * 31 + street.place(house);
            d = d * 31 + street.height(house);
            d = d * 31 + street.firstLow(house);
            d = d * 31 + street.lastLow(house);
            d = d * 31 + street.lost(house);
            d = d * 31 + street.cast(house);
            for (int by = 0; by < street.count; by++) {
                d = d * 31 + Integer.bitCount(street.hoursShaded(house, by));
            }
        }
        for (int hour = FIRST_HOUR; hour <= LAST_HOUR; hour++) {
            d = d * 31 + countDark(hour);
        }
        return d;
    }

    // ---- what several calls share

    private void checkHouse(int house) {
        if (!street.has(house)) {
            throw new IndexOutOfBoundsException("there is no such house");
        }
    }

    private void checkCurfew(int house) {
        if (street.firstLow(house) == NONE) {
            throw new IllegalStateException("its wall has no curfew");
        }
    }

    private static void checkHour(int hour) {
        if (hour < 0 || hour >= HOURS_OF_DAY) {
            throw new IndexOutOfBoundsException("there is no such hour");
        }
    }

    private static void checkDays(int days) {
        if (days < 1 || days > MOST_DAYS) {
            throw new IllegalArgumentException("days are 1 to 30");
        }
    }

    private static void checkCurfewHours(int hours) {
        if (hours < 1 || hours > HOURS_OF_LIGHT) {
            throw new IllegalArgumentException("hours are 1 to 13");
        }
    }

    private int countDark(int hour) {
        int dark = 0;
        for (int house = 0; house < street.count; house++) {
            if (holdsHour(street.hoursDark(house), hour)) {
                dark++;
            }
        }
        return dark;
    }

    private static boolean holdsHour(int hours, int hour) {
        return ((hours >> hour) & 1) != 0;
    }

    private static int held(long number, int least, int most) {
        return (int) Math.max(least, Math.min(most, number));
    }

    /** What a token is: a keyword, a symbol, or one of the rest. */
    private enum Kind {
        HOUSE("house"), AT("at"), HIGH("high"), LAW("law"), CURFEW("curfew"), FROM("from"), TO("to"), OPEN("open"),
        RAISE("raise"), BY("by"), WHEN("when"), DAY("day"), LOST("lost"), CAST("cast"), HEIGHT("height"),
        WORST("worst"), OF("of"), SHADES("shades"), DARK("dark"), NOT("not"), AND("and"), OR("or"), MIN("min"),
        MAX("max"),
        LEFT_ROUND(""), RIGHT_ROUND(""), LEFT_SQUARE(""), RIGHT_SQUARE(""), SEMICOLON(""), COMMA(""), PLUS(""),
        MINUS(""), TIMES(""), SLASH(""), LESS(""), GREATER(""), EQUAL(""), LESS_EQUAL(""), GREATER_EQUAL(""),
        NAME(""), NUMBER(""), END(""), BAD("");

        final long word;

        Kind(String text) {
            long signs = 0;
            for (int i = 0; i < text.length(); i++) {
                signs = lengthened(signs, text.charAt(i));
            }
            word = signs;
        }

        /** The word with one sign more, as a number that no other word has. */
        static long lengthened(long word, int sign) {
            return word * WORD_BASE + (sign >= 'a' ? sign - 'a' + 1 : sign - '0' + 27);
        }
    }

    /** The bytes that are to be read. */
    private static final class Tape {
        private final byte[] bytes = new byte[MOST_BYTES];
        private int length;

        void append(int number) {
            for (int shift = 24; shift >= 0; shift -= 8) {
                if (length >= 0 && length < bytes.length) {
                    bytes[length] = (byte) (number >> shift);
                    length++;
                }
            }
        }

        /** The byte, 0 to 255, or NONE outside of the tape. */
        int signAt(int place) {
            if (place < 0 || place >= length || place >= bytes.length) {
                return NONE;
            }
            return bytes[place] & 255;
        }
    }

    /** The row of tokens of a tape; it ends with END, or with BAD where nothing that is behind can count any more. */
    private static final class Tokens {
        private final Tape tape;
        private final Kind[] kinds = new Kind[MOST_TOKENS + 1];
        private final int[] starts = new int[MOST_TOKENS + 1];
        private final long[] values = new long[MOST_TOKENS + 1];
        private int count;

        Tokens(Tape tape) {
            this.tape = tape;
        }

        void scan() {
            count = 0;
            int place = 0;
            for (int i = 0; i <= MOST_TOKENS && place != NONE; i++) {
                place = scanToken(behindBlanks(place));
            }
        }

        Kind kindAt(int token) {
            return token < 0 || token >= count || token > MOST_TOKENS ? Kind.END : kinds[token];
        }

        int startAt(int token) {
            return token < 0 || token >= count || token > MOST_TOKENS ? tape.length : starts[token];
        }

        /** The number that a number is, or that of the signs of a word. */
        long valueAt(int token) {
            return token < 0 || token >= count || token > MOST_TOKENS ? 0 : values[token];
        }

        private int behindBlanks(int place) {
            int behind = place;
            while (behind < MOST_BYTES && (tape.signAt(behind) == ' ' || tape.signAt(behind) == '\n')) {
                behind++;
            }
            return behind;
        }

        private static boolean isLetter(int sign) {
            return sign >= 'a' && sign <= 'z';
        }

        private static boolean isDigit(int sign) {
            return sign >= '0' && sign <= '9';
        }

        /** The place behind the token, or NONE if it is the last one. */
        private int scanToken(int start) {
            int sign = tape.signAt(start);
            if (sign == NONE) {
                return put(Kind.END, start, 0, NONE);
            }
            if (count == MOST_TOKENS) {
                return put(Kind.BAD, start, 0, NONE);
            }
            if (isLetter(sign)) {
                return scanWord(start);
            }
            if (isDigit(sign)) {
                return scanNumber(start);
            }
            return scanSymbol(start, sign);
        }

        private int scanWord(int start) {
            long word = 0;
            int end = start;
            while (end < MOST_BYTES && (isLetter(tape.signAt(end)) || isDigit(tape.signAt(end)))) {
                word = Kind.lengthened(word, tape.signAt(end));
                end++;
            }
            if (end - start > LONGEST_WORD) {
                return put(Kind.BAD, start, 0, NONE);
            }
            for (Kind kind : KINDS) {
                if (kind.word == word) {
                    return put(kind, start, 0, end);
                }
            }
            return put(Kind.NAME, start, word, end);
        }

        private int scanNumber(int start) {
            long number = 0;
            int end = start;
            while (end < MOST_BYTES && isDigit(tape.signAt(end))) {
                number = number * 10 + (tape.signAt(end) - '0');
                end++;
            }
            if (end - start > LONGEST_NUMBER) {
                return put(Kind.BAD, start, 0, NONE);
            }
            return put(Kind.NUMBER, start, number, end);
        }

        private int scanSymbol(int start, int sign) {
            boolean withEqual = tape.signAt(start + 1) == '=';
            if (withEqual && sign == '<') {
                return put(Kind.LESS_EQUAL, start, 0, start + 2);
            }
            if (withEqual && sign == '>') {
                return put(Kind.GREATER_EQUAL, start, 0, start + 2);
            }
            Kind kind = symbol(sign);
            return put(kind, start, 0, kind == Kind.BAD ? NONE : start + 1);
        }

        private static Kind symbol(int sign) {
            switch (sign) {
                case '(': return Kind.LEFT_ROUND;
                case ')': return Kind.RIGHT_ROUND;
                case '[': return Kind.LEFT_SQUARE;
                case ']': return Kind.RIGHT_SQUARE;
                case ';': return Kind.SEMICOLON;
                case ',': return Kind.COMMA;
                case '+': return Kind.PLUS;
                case '-': return Kind.MINUS;
                case '*': return Kind.TIMES;
                case '/': return Kind.SLASH;
                case '<': return Kind.LESS;
                case '>': return Kind.GREATER;
                case '=': return Kind.EQUAL;
                default: return Kind.BAD;
            }
        }

        private int put(Kind kind, int start, long value, int behind) {
            if (count >= 0 && count <= MOST_TOKENS) {
                kinds[count] = kind;
                starts[count] = start;
                values[count] = value;
                count++;
            }
            return behind;
        }
    }

    /** A law: what it orders, and where in its book the steps of its sums and its test are. */
    private static final class Law {
        private int order;
        private int house;
        // The steps of the first sum begin here, then those of the second one, then those of the test.
        private int begin;
        private int secondBegin;
        private int testBegin;
        private int end;

        void become(Law other) {
            order = other.order;
            house = other.house;
            begin = other.begin;
            secondBegin = other.secondBegin;
            testBegin = other.testBegin;
            end = other.end;
        }
    }

    /** What a registry tells: houses, laws, and the steps in which the sums and tests of the laws are reckoned. */
    private static final class Book {
        private final long[] names = new long[MOST_HOUSES];
        private final int[] places = new int[MOST_HOUSES];
        private final int[] heights = new int[MOST_HOUSES];
        private int houseCount;
        private final Law[] rows = new Law[MOST_LAWS];
        private int lawCount;
        // No token makes more than one step.
        private final int[] ops = new int[MOST_TOKENS];
        private final int[] firsts = new int[MOST_TOKENS];
        private final int[] seconds = new int[MOST_TOKENS];
        private int stepCount;

        Book() {
            for (int i = 0; i < rows.length; i++) {
                rows[i] = new Law();
            }
        }

        void empty() {
            houseCount = 0;
            lawCount = 0;
            stepCount = 0;
        }

        void become(Book other) {
            empty();
            for (int house = 0; house < other.houseCount && house < MOST_HOUSES; house++) {
                addHouse(other.names[house], other.places[house], other.heights[house]);
            }
            for (int i = 0; i < other.stepCount && i < MOST_TOKENS; i++) {
                addStep(other.ops[i], other.firsts[i], other.seconds[i]);
            }
            for (int i = 0; i < other.lawCount; i++) {
                Law law = other.lawAt(i);
                if (law != null) {
                    addLaw(law);
                }
            }
        }

        void addHouse(long name, int place, int height) {
            if (houseCount >= 0 && houseCount < MOST_HOUSES) {
                names[houseCount] = name;
                places[houseCount] = place;
                heights[houseCount] = height;
                houseCount++;
            }
        }

        void addStep(int op, int first, int second) {
            if (stepCount >= 0 && stepCount < MOST_TOKENS) {
                ops[stepCount] = op;
                firsts[stepCount] = first;
                seconds[stepCount] = second;
                stepCount++;
            }
        }

        void addLaw(Law law) {
            Law row = lawCount >= 0 && lawCount < rows.length ? rows[lawCount] : null;
            if (row != null) {
                row.become(law);
                lawCount++;
            }
        }

        Law lawAt(int i) {
            return i < 0 || i >= lawCount || i >= rows.length ? null : rows[i];
        }

        /** The house with this name, or NONE. */
        int houseNamed(long name) {
            for (int house = 0; house < houseCount && house < MOST_HOUSES; house++) {
                if (names[house] == name) {
                    return house;
                }
            }
            return NONE;
        }

        boolean isTaken(long place) {
            for (int house = 0; house < houseCount && house < MOST_HOUSES; house++) {
                if (places[house] == place) {
                    return true;
                }
            }
            return false;
        }
    }

    /** Reads the tokens as a registry into a book. */
    private static final class Parser {
        private final Tokens tokens;
        private final Book book;
        private final Law law = new Law();
        private int token;
        private int start;
        // Behind an error 1 it stays BAD: so nothing more is taken, and all that is under way comes to its end.
        private Kind now = Kind.BAD;
        private boolean broken;
        private int flaw;
        private int flawAt;

        Parser(Tokens tokens, Book book) {
            this.tokens = tokens;
            this.book = book;
        }

        /** Gives 0, or the error. */
        int read() {
            tokens.scan();
            book.empty();
            broken = false;
            token = 0;
            start = tokens.startAt(0);
            now = tokens.kindAt(0);
            flaw = 0;
            flawAt = NONE;
            for (int line = 0; line < MOST_TOKENS && now != Kind.END && !broken; line++) {
                if (now == Kind.HOUSE) {
                    houseLine();
                } else {
                    lawLine();
                }
                take(Kind.SEMICOLON);
            }
            return flaw;
        }

        private void houseLine() {
            take(Kind.HOUSE);
            int nameAt = start;
            long name = take(Kind.NAME);
            if (book.houseNamed(name) != NONE) {
                tell(ERROR_TOLD_TWICE, nameAt);
            } else if (book.houseCount >= MOST_HOUSES) {
                tell(ERROR_TOO_MANY, nameAt);
            }
            take(Kind.AT);
            int placeAt = start;
            long place = take(Kind.NUMBER);
            if (place > LAST_PLACE || book.isTaken(place)) {
                tell(ERROR_NUMBER, placeAt);
            }
            take(Kind.HIGH);
            int highAt = start;
            long height = take(Kind.NUMBER);
            if (height > GREATEST_HEIGHT) {
                tell(ERROR_NUMBER, highAt);
            }
            book.addHouse(name, (int) place, (int) height);
        }

        private void lawLine() {
            int lawAt = start;
            take(Kind.LAW);
            if (book.lawCount >= MOST_LAWS) {
                tell(ERROR_TOO_MANY, lawAt);
            }
            order();
            law.testBegin = book.stepCount;
            if (now == Kind.WHEN) {
                take(Kind.WHEN);
                test(0);
            }
            law.end = book.stepCount;
            book.addLaw(law);
        }

        private void order() {
            law.begin = book.stepCount;
            law.secondBegin = book.stepCount;
            if (now == Kind.CURFEW) {
                law.order = ORDER_CURFEW;
                take(Kind.CURFEW);
                law.house = knownHouse();
                take(Kind.FROM);
                sum(0);
                law.secondBegin = book.stepCount;
                take(Kind.TO);
                sum(0);
            } else if (now == Kind.OPEN) {
                law.order = ORDER_OPEN;
                take(Kind.OPEN);
                law.house = knownHouse();
            } else {
                law.order = ORDER_RAISE;
                take(Kind.RAISE);
                law.house = knownHouse();
                take(Kind.BY);
                sum(0);
                law.secondBegin = book.stepCount;
            }
        }

        private void test(int depth) {
            both(depth);
            for (int i = 0; i < MOST_TOKENS && now == Kind.OR; i++) {
                take(Kind.OR);
                both(depth);
                book.addStep(OP_OR, 0, 0);
            }
        }

        private void both(int depth) {
            single(depth);
            for (int i = 0; i < MOST_TOKENS && now == Kind.AND; i++) {
                take(Kind.AND);
                single(depth);
                book.addStep(OP_AND, 0, 0);
            }
        }

        private void single(int depth) {
            if (now == Kind.NOT) {
                if (goesDeeper(Kind.NOT, depth)) {
                    single(depth + 1);
                    book.addStep(OP_NOT, 0, 0);
                }
            } else if (now == Kind.LEFT_SQUARE) {
                if (goesDeeper(Kind.LEFT_SQUARE, depth)) {
                    test(depth + 1);
                    take(Kind.RIGHT_SQUARE);
                }
            } else if (now == Kind.SHADES) {
                take(Kind.SHADES);
                int first = knownHouse();
                book.addStep(OP_SHADES, first, knownHouse());
            } else if (now == Kind.DARK) {
                take(Kind.DARK);
                book.addStep(OP_DARK, knownHouse(), 0);
            } else {
                sum(depth);
                int op = comparisonOp(now);
                if (op == NONE) {
                    fail();
                    return;
                }
                take(now);
                sum(depth);
                book.addStep(op, 0, 0);
            }
        }

        private static int comparisonOp(Kind sign) {
            if (sign == Kind.LESS) {
                return OP_LESS;
            }
            if (sign == Kind.GREATER) {
                return OP_GREATER;
            }
            if (sign == Kind.EQUAL) {
                return OP_EQUAL;
            }
            if (sign == Kind.LESS_EQUAL) {
                return OP_LESS_EQUAL;
            }
            return sign == Kind.GREATER_EQUAL ? OP_GREATER_EQUAL : NONE;
        }

        private void sum(int depth) {
            product(depth);
            for (int i = 0; i < MOST_TOKENS && (now == Kind.PLUS || now == Kind.MINUS); i++) {
                int op = now == Kind.PLUS ? OP_ADD : OP_SUBTRACT;
                take(now);
                product(depth);
                book.addStep(op, 0, 0);
            }
        }

        private void product(int depth) {
            value(depth);
            for (int i = 0; i < MOST_TOKENS && (now == Kind.TIMES || now == Kind.SLASH); i++) {
                int op = now == Kind.TIMES ? OP_MULTIPLY : OP_DIVIDE;
                take(now);
                value(depth);
                book.addStep(op, 0, 0);
            }
        }

        private void value(int depth) {
            if (now == Kind.NUMBER) {
                book.addStep(OP_NUMBER, (int) take(Kind.NUMBER), 0);
            } else if (now == Kind.DAY) {
                take(Kind.DAY);
                book.addStep(OP_DAY, 0, 0);
            } else if (now == Kind.WORST) {
                take(Kind.WORST);
                book.addStep(OP_WORST, 0, 0);
            } else if (now == Kind.LOST || now == Kind.CAST || now == Kind.HEIGHT) {
                int op = now == Kind.LOST ? OP_LOST : now == Kind.CAST ? OP_CAST : OP_HEIGHT;
                take(now);
                take(Kind.OF);
                book.addStep(op, knownHouse(), 0);
            } else if (now == Kind.MINUS) {
                if (goesDeeper(Kind.MINUS, depth)) {
                    value(depth + 1);
                    book.addStep(OP_NEGATE, 0, 0);
                }
            } else if (now == Kind.LEFT_ROUND) {
                if (goesDeeper(Kind.LEFT_ROUND, depth)) {
                    sum(depth + 1);
                    take(Kind.RIGHT_ROUND);
                }
            } else if (now == Kind.MIN || now == Kind.MAX) {
                choice(depth);
            } else {
                fail();
            }
        }

        private void choice(int depth) {
            int op = now == Kind.MIN ? OP_MIN : OP_MAX;
            take(now);
            if (goesDeeper(Kind.LEFT_ROUND, depth)) {
                sum(depth + 1);
                take(Kind.COMMA);
                sum(depth + 1);
                take(Kind.RIGHT_ROUND);
                book.addStep(op, 0, 0);
            }
        }

        /** Takes the token behind which the depth is 1 greater, if there may be such a depth. */
        private boolean goesDeeper(Kind kind, int depth) {
            if (depth >= MOST_DEPTH) {
                fail();
            } else {
                take(kind);
            }
            return !broken;
        }

        private int knownHouse() {
            int nameAt = start;
            int house = book.houseNamed(take(Kind.NAME));
            if (house == NONE) {
                tell(ERROR_UNKNOWN, nameAt);
            }
            return house;
        }

        /** Goes on behind the token and gives its value, if it is of this kind; otherwise this is error 1. */
        private long take(Kind kind) {
            if (broken || now != kind || now == Kind.BAD) {
                fail();
                return 0;
            }
            long value = tokens.valueAt(token);
            token++;
            start = tokens.startAt(token);
            now = tokens.kindAt(token);
            return value;
        }

        private void fail() {
            if (!broken) {
                broken = true;
                flaw = ERROR_GRAMMAR;
                flawAt = start;
                now = Kind.BAD;
            }
        }

        /** Keeps the first error of those that count only without an error 1. */
        private void tell(int error, int place) {
            if (flaw == 0) {
                flaw = error;
                flawAt = place;
            }
        }
    }

    /** Lets laws have their way with a street. */
    private static final class Reckoner {
        private final Book book;
        private final int[] stack = new int[MOST_TOKENS];
        private int stacked;

        Reckoner(Book book) {
            this.book = book;
        }

        void passDay(Street street) {
            for (int i = 0; i < book.lawCount; i++) {
                Law law = book.lawAt(i);
                if (law != null && carryOut(law, street)) {
                    street.carriedOut++;
                }
            }
            street.daysGone++;
        }

        /** Whether the law changed something. */
        private boolean carryOut(Law law, Street street) {
            if (law.testBegin < law.end && reckon(law.testBegin, law.end, street) == 0) {
                return false;
            }
            if (law.order == ORDER_OPEN) {
                return street.giveCurfew(law.house, NONE, NONE);
            }
            int first = reckon(law.begin, law.secondBegin, street);
            if (law.order == ORDER_RAISE) {
                long height = (long) street.height(law.house) + first;
                return street.giveHeight(law.house, held(height, 0, GREATEST_HEIGHT));
            }
            int from = held(first, FIRST_HOUR, LAST_HOUR);
            int to = held(reckon(law.secondBegin, law.testBegin, street), FIRST_HOUR, LAST_HOUR);
            return from <= to && street.giveCurfew(law.house, from, to);
        }

        private int reckon(int begin, int end, Street street) {
            stacked = 0;
            for (int i = Math.max(begin, 0); i < end && i < MOST_TOKENS; i++) {
                int op = book.ops[i];
                if (op <= LAST_LEAF) {
                    push(leaf(op, book.firsts[i], book.seconds[i], street));
                } else if (op <= LAST_OF_ONE_SIDE) {
                    int turned = pop();
                    push(op == OP_NEGATE ? -turned : 1 - turned);
                } else {
                    int right = pop();
                    int left = pop();
                    push(op < OP_LESS ? sumOf(op, left, right) : truth(testOf(op, left, right)));
                }
            }
            return pop();
        }

        private static int leaf(int op, int first, int second, Street street) {
            switch (op) {
                case OP_NUMBER: return first;
                case OP_DAY: return street.daysGone;
                case OP_WORST: return street.mostLost();
                case OP_LOST: return street.lost(first);
                case OP_CAST: return street.cast(first);
                case OP_HEIGHT: return street.height(first);
                case OP_SHADES: return truth(street.hoursShaded(second, first) != 0);
                default: return truth(street.lost(first) != 0);
            }
        }

        private static int sumOf(int op, int left, int right) {
            switch (op) {
                case OP_ADD: return left + right;
                case OP_SUBTRACT: return left - right;
                case OP_MULTIPLY: return left * right;
                case OP_DIVIDE: return right == 0 ? 0 : left / right;
                case OP_MIN: return Math.min(left, right);
                default: return Math.max(left, right);
            }
        }

        private static boolean testOf(int op, int left, int right) {
            switch (op) {
                case OP_LESS: return left < right;
                case OP_GREATER: return left > right;
                case OP_EQUAL: return left == right;
                case OP_LESS_EQUAL: return left <= right;
                case OP_GREATER_EQUAL: return left >= right;
                case OP_AND: return left != 0 && right != 0;
                default: return left != 0 || right != 0;
            }
        }

        private static int truth(boolean holds) {
            return holds ? 1 : 0;
        }

        private void push(int number) {
            if (stacked >= 0 && stacked < stack.length) {
                stack[stacked] = number;
                stacked++;
            }
        }

        private int pop() {
            if (stacked <= 0 || stacked > stack.length) {
                return 0;
            }
            stacked--;
            return stack[stacked];
        }
    }

    /** Houses as they stand, and the shadows of their walls. Hours are kept as bits: bit h of a number is hour h. */
    private static final class Street {
        private int count;
        private int daysGone;
        private int carriedOut;
        private int lostInAll;
        private final int[] places = new int[MOST_HOUSES];
        private final int[] heights = new int[MOST_HOUSES];
        private final int[] froms = new int[MOST_HOUSES];
        private final int[] tos = new int[MOST_HOUSES];
        // At house * MOST_HOUSES + by: the hours at which by shades house.
        private final int[] shaded = new int[MOST_HOUSES * MOST_HOUSES];
        private final int[] darks = new int[MOST_HOUSES];
        private final int[] casts = new int[MOST_HOUSES];

        void beginWith(Book book) {
            count = held(book.houseCount, 0, MOST_HOUSES);
            daysGone = 0;
            carriedOut = 0;
            for (int house = 0; house < count; house++) {
                places[house] = book.places[house];
                heights[house] = book.heights[house];
                froms[house] = NONE;
                tos[house] = NONE;
            }
            for (int house = 0; house < count; house++) {
                for (int by = 0; by < count; by++) {
                    shaded[house * MOST_HOUSES + by] = findHoursShaded(house, by);
                }
            }
            addUp();
        }

        void become(Street other) {
            count = other.count;
            daysGone = other.daysGone;
            carriedOut = other.carriedOut;
            lostInAll = other.lostInAll;
            System.arraycopy(other.places, 0, places, 0, MOST_HOUSES);
            System.arraycopy(other.heights, 0, heights, 0, MOST_HOUSES);
            System.arraycopy(other.froms, 0, froms, 0, MOST_HOUSES);
            System.arraycopy(other.tos, 0, tos, 0, MOST_HOUSES);
            System.arraycopy(other.shaded, 0, shaded, 0, MOST_HOUSES * MOST_HOUSES);
            System.arraycopy(other.darks, 0, darks, 0, MOST_HOUSES);
            System.arraycopy(other.casts, 0, casts, 0, MOST_HOUSES);
        }

        boolean has(int house) {
            return house >= 0 && house < count && house < MOST_HOUSES;
        }

        int place(int house) {
            return has(house) ? places[house] : NONE;
        }

        int height(int house) {
            return has(house) ? heights[house] : 0;
        }

        /** The first hour of the curfew, or NONE. */
        int firstLow(int house) {
            return has(house) ? froms[house] : NONE;
        }

        /** The last hour of the curfew, or NONE. */
        int lastLow(int house) {
            return has(house) ? tos[house] : NONE;
        }

        int wallAt(int house, int hour) {
            if (!has(house) || (froms[house] <= hour && hour <= tos[house])) {
                return 0;
            }
            return heights[house];
        }

        int reach(int house, int hour) {
            int steps = hour < FIRST_HOUR || hour > LAST_HOUR ? 0 : Math.abs(hour - NOON);
            return wallAt(house, hour) * steps / 2;
        }

        int hoursShaded(int house, int by) {
            return has(house) && has(by) ? shaded[house * MOST_HOUSES + by] : 0;
        }

        int hoursDark(int house) {
            return has(house) ? darks[house] : 0;
        }

        int lost(int house) {
            return Integer.bitCount(hoursDark(house));
        }

        int cast(int house) {
            return has(house) ? casts[house] : 0;
        }

        int mostLost() {
            int most = 0;
            for (int house = 0; house < count && house < MOST_HOUSES; house++) {
                most = Math.max(most, Integer.bitCount(darks[house]));
            }
            return most;
        }

        /** Gives the wall a curfew, or none with NONE and NONE; whether this changed something. */
        boolean giveCurfew(int house, int from, int to) {
            if (!has(house) || (froms[house] == from && tos[house] == to)) {
                return false;
            }
            froms[house] = from;
            tos[house] = to;
            renew(house);
            return true;
        }

        /** Whether this changed something. */
        boolean giveHeight(int house, int height) {
            if (!has(house) || heights[house] == height) {
                return false;
            }
            heights[house] = height;
            renew(house);
            return true;
        }

        void givePlace(int house, int place) {
            if (has(house)) {
                places[house] = place;
                renew(house);
            }
        }

        /** Finds the shadows anew that have to do with a house: those of all others stay as they are. */
        private void renew(int house) {
            for (int other = 0; other < count && other < MOST_HOUSES; other++) {
                shaded[house * MOST_HOUSES + other] = findHoursShaded(house, other);
                shaded[other * MOST_HOUSES + house] = findHoursShaded(other, house);
            }
            addUp();
        }

        private int findHoursShaded(int house, int by) {
            int eastward = place(house) - place(by);
            int away = Math.abs(eastward);
            int hours = 0;
            for (int steps = 1; eastward != 0 && steps <= MOST_STEPS; steps++) {
                int hour = eastward < 0 ? NOON - steps : NOON + steps;
                int tall = wallAt(by, hour) * steps;
                if (away <= tall / 2 && (tall - 2 * away) / steps > wallAt(house, hour)) {
                    hours |= 1 << hour;
                }
            }
            return hours;
        }

        private void addUp() {
            lostInAll = 0;
            for (int house = 0; house < count && house < MOST_HOUSES; house++) {
                int dark = 0;
                int cast = 0;
                for (int other = 0; other < count; other++) {
                    dark |= hoursShaded(house, other);
                    cast += Integer.bitCount(hoursShaded(other, house));
                }
                darks[house] = dark;
                casts[house] = cast;
                lostInAll += Integer.bitCount(dark);
            }
        }
    }
}
