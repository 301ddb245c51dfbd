/**
 * One glove on a spike: a street, gloves that are hung up in it, her walk along them, and the texts
 * by which they show, move and are missed. What every call answers is told in ../shared/DOC.md.
 */
public final class OneGlove {
    public static final int NONE = -1, BAD = -2, STATE = -3, FULL = -4;
    public static final long NO = -4611686018427387904L;

    // The host's refusals, and what a FAULT's place is taken from.
    private static final int NOTHING = -11, OUTSIDE = -12, UNLIKE = -13, BELOW = -14, FAULT = -100;

    // How many there are of each.
    private static final int PLACES = 20, HEIGHTS = 5, SIDES = 2, DAYS = 30, NUMBERS = 10, KINDS = 6;
    private static final int GLOVES = 6, TEXTS = 6, TAPE = 160, SHEETS = 4, ITEMS = 40, SEEDS = 20;
    private static final int FOUND_DAYS = 8, OPEN = 5, DIGITS = 4;

    // KINDS, and the one that each stands under.
    private static final int GLOVE = 0, GREY = 1, RED = 2, SMALL = 3, WOOLLY = 4, LEATHER = 5;
    private static final int[] ABOVE = {NONE, GLOVE, GLOVE, GREY, RED, GLOVE};

    // What set() and told() speak of.
    private static final int FROM = 0, TO = 1, HER_SIDE = 2, NUMBER_OF = 3, PLACE_OF = 4;
    private static final int HEIGHT_OF = 5, SIDE_OF = 6, KIND_OF = 7, LASTS_OF = 8;

    // What tells() speaks of.
    private static final int OTHERWISE = 0, BY_KIND = 1, BY_NUMBER = 2, BY_PLACE = 3, BY_HEIGHT = 4;
    private static final int BY_TEXT = 5;

    // Sorts of SHEETS.
    private static final int MISSING = -1, BYTES = 0, SHORTS = 1, INTS = 2;

    // The parts of a TEXT.
    private static final int SHOWS_PART = 0, MOVES_PART = 1, MINDS_PART = 2, PARTS = 3;

    // TOKENS: words have these numbers, SIGNS that of their byte.
    private static final int PLACE = 1, HEIGHT = 2, DAY = 3, NUMBER = 4, FAR = 5, SIDE = 6;
    private static final int SHOWS = 7, MOVES = 8, MINDS = 9, OR = 10, AND = 11, NOT = 12;
    private static final int DIGITS_TOKEN = 13, END = 14, WRONG = 15, NEGATE = 16;

    private static final int LEFT_AT_FIRST = 1000000, PLACE_COSTS = 1000000;
    private static final long WHOLE = 1000000000L;
    private static final String FIRST_RULE = "shows 10 + height * 10 ; moves 0 ; minds 1 ;";

    /** A GLOVE: what was told of it, and what its KIND makes of what a TEXT tells. */
    private static final class Glove {
        int kind;
        int number;
        int place;
        int height;
        int side;

        void come(int itsKind, int itsNumber, int itsPlace) {
            kind = itsKind;
            number = itsNumber;
            place = itsPlace;
            height = 2;
            side = 0;
        }

        void become(Glove other) {
            kind = other.kind;
            number = other.number;
            place = other.place;
            height = other.height;
            side = other.side;
        }

        int lasts() {
            switch (kind) {
                case GREY:
                case SMALL:
                    return 20 + number;
                case WOOLLY:
                    return 20 / 2;
                case LEATHER:
                    return 20 + 10;
                default:
                    return 20;
            }
        }

        int showing(int told, int herSide) {
            int plain = side == herSide ? told : told / 2;
            switch (kind) {
                case GREY:
                    return within(plain / 2, 0, 100);
                case SMALL:
                    return within(plain / 2 - number, 0, 100);
                case RED:
                case WOOLLY:
                    return within(plain + 20, 0, 100);
                case LEATHER:
                    return within(plain + number, 0, 100);
                default:
                    return within(plain, 0, 100);
            }
        }

        int moving(int told) {
            switch (kind) {
                case RED:
                    return told * 2;
                case SMALL:
                    return told + 1;
                case WOOLLY:
                    return told * 2 - 1;
                case LEATHER:
                    return told / 2;
                default:
                    return told;
            }
        }

        boolean isUnder(int other) {
            int one = kind;
            for (int i = 0; i < KINDS && one >= 0 && one < ABOVE.length; i++) {
                if (one == other) {
                    return true;
                }
                one = ABOVE[one];
            }
            return false;
        }
    }

    /** HER WALK. */
    private static final class Walk {
        int from;
        int to;
        int side;

        void become(int itsFrom, int itsTo, int itsSide) {
            from = itsFrom;
            to = itsTo;
            side = itsSide;
        }

        boolean passes(int place) {
            return place >= Math.min(from, to) && place <= Math.max(from, to);
        }

        int passed() {
            return Math.abs(to - from) + 1;
        }
    }

    /**
     * A TEXT, each part as a row of what is to be reckoned, what an operation takes standing ahead of
     * it: 0 and above a NUMBER, below 0 the TOKEN's number.
     */
    private static final class Text {
        private final int[] row = new int[TAPE];
        private final int[] ends = new int[PARTS];
        private int size;

        void begin() {
            size = 0;
        }

        void keep(int item) {
            if (size >= 0 && size < row.length) {
                row[size] = item;
                size++;
            }
        }

        void endPart(int part) {
            if (part >= 0 && part < ends.length) {
                ends[part] = size;
            }
        }

        int startOf(int part) {
            return part >= 1 && part <= ends.length ? ends[part - 1] : 0;
        }

        int endOf(int part) {
            return part >= 0 && part < ends.length ? ends[part] : 0;
        }

        int itemAt(int i) {
            return i >= 0 && i < row.length ? row[i] : 0;
        }
    }

    /** THE TAPE, and the TOKENS that stand on it. */
    private static final class Tape {
        private final int[] bytes = new int[TAPE];
        private int size;
        // One TOKEN a byte at the most, and END behind them.
        private final int[] tokens = new int[TAPE + 1];
        private final int[] starts = new int[TAPE + 1];
        private final int[] numbers = new int[TAPE + 1];
        private int count;

        boolean add(int letter) {
            if (size < 0 || size >= bytes.length) {
                return false;
            }
            bytes[size] = letter;
            size++;
            return true;
        }

        void empty() {
            size = 0;
        }

        int tokenAt(int i) {
            return i >= 0 && i < count && i < tokens.length ? tokens[i] : END;
        }

        int startAt(int i) {
            return i >= 0 && i < count && i < starts.length ? starts[i] : size;
        }

        int numberAt(int i) {
            return i >= 0 && i < count && i < numbers.length ? numbers[i] : 0;
        }

        void scan() {
            count = 0;
            int at = behindBlanks(0);
            for (int i = 0; i < TAPE && at < size; i++) {
                at = behindBlanks(scanToken(at));
            }
            put(END, size, 0);
        }

        private int scanToken(int at) {
            int letter = byteAt(at);
            int end = at + 1;
            if (letter >= 'a' && letter <= 'z') {
                end = endOfRun(at, 'a', 'z');
                put(wordOf(at, end), at, 0);
            } else if (letter >= '0' && letter <= '9') {
                end = endOfRun(at, '0', '9');
                put(end - at > DIGITS ? WRONG : DIGITS_TOKEN, at, numberOf(at, end));
            } else {
                put(isSign(letter) ? letter : WRONG, at, 0);
            }
            return end;
        }

        private void put(int token, int start, int number) {
            if (count >= 0 && count < tokens.length && count < starts.length && count < numbers.length) {
                tokens[count] = token;
                starts[count] = start;
                numbers[count] = number;
                count++;
            }
        }

        private int byteAt(int i) {
            return i >= 0 && i < size && i < bytes.length ? bytes[i] : NONE;
        }

        private int behindBlanks(int from) {
            int at = from;
            while (at < size && (byteAt(at) == 32 || byteAt(at) == 10)) {
                at++;
            }
            return at;
        }

        private int endOfRun(int from, int low, int high) {
            int at = from;
            while (at < size && byteAt(at) >= low && byteAt(at) <= high) {
                at++;
            }
            return at;
        }

        private int numberOf(int from, int end) {
            int number = 0;
            for (int i = from; i < end; i++) {
                number = number * 10 + byteAt(i) - '0';
            }
            return number;
        }

        private int wordOf(int from, int end) {
            for (int word = PLACE; word <= NOT; word++) {
                if (stands(spelled(word), from, end)) {
                    return word;
                }
            }
            return WRONG;
        }

        private boolean stands(String word, int from, int end) {
            if (word.length() != end - from) {
                return false;
            }
            for (int i = 0; i < word.length(); i++) {
                if (word.charAt(i) != byteAt(from + i)) {
                    return false;
                }
            }
            return true;
        }

        private static boolean isSign(int letter) {
            switch (letter) {
                case '(':
                case ')':
                case ';':
                case '+':
                case '-':
                case '*':
                case '<':
                case '=':
                    return true;
                default:
                    return false;
            }
        }

        private static String spelled(int word) {
            switch (word) {
                case PLACE:
                    return "place";
                case HEIGHT:
                    return "height";
                case DAY:
                    return "day";
                case NUMBER:
                    return "number";
                case FAR:
                    return "far";
                case SIDE:
                    return "side";
                case SHOWS:
                    return "shows";
                case MOVES:
                    return "moves";
                case MINDS:
                    return "minds";
                case OR:
                    return "or";
                case AND:
                    return "and";
                case NOT:
                    return "not";
                default:
                    return "";
            }
        }
    }

    /**
     * Reads THE TAPE's TOKENS by the grammar, a method a line of it. Each answers whether all went
     * well; if it did not, the TOKEN at which the reader stands is the one that can't stand there.
     * "open" is how many of ( not - are open, and so how deep the methods may call one another.
     */
    private static final class Reader {
        private final Tape tape = new Tape();
        private int at;

        /** The place of the FAULT, or NONE. */
        int read(Text text) {
            tape.scan();
            at = 0;
            text.begin();
            boolean well = readPart(text, SHOWS, SHOWS_PART)
                    && readPart(text, MOVES, MOVES_PART)
                    && readPart(text, MINDS, MINDS_PART)
                    && tape.tokenAt(at) == END;
            return well ? NONE : tape.startAt(at);
        }

        private boolean readPart(Text text, int key, int part) {
            if (!passed(key) || !readOr(text, 0) || !passed(';')) {
                return false;
            }
            text.endPart(part);
            return true;
        }

        private boolean passed(int token) {
            if (tape.tokenAt(at) != token) {
                return false;
            }
            at++;
            return true;
        }

        private boolean readOr(Text text, int open) {
            boolean well = readAnd(text, open);
            for (int i = 0; i < TAPE && well && passed(OR); i++) {
                well = readAnd(text, open);
                text.keep(-OR);
            }
            return well;
        }

        private boolean readAnd(Text text, int open) {
            boolean well = readNot(text, open);
            for (int i = 0; i < TAPE && well && passed(AND); i++) {
                well = readNot(text, open);
                text.keep(-AND);
            }
            return well;
        }

        private boolean readNot(Text text, int open) {
            if (tape.tokenAt(at) == NOT) {
                if (open >= OPEN) {
                    return false;
                }
                at++;
                boolean well = readNot(text, open + 1);
                text.keep(-NOT);
                return well;
            }
            if (!readSum(text, open)) {
                return false;
            }
            int sign = tape.tokenAt(at);
            if (sign != '<' && sign != '=') {
                return true;
            }
            at++;
            boolean well = readSum(text, open);
            text.keep(-sign);
            return well;
        }

        private boolean readSum(Text text, int open) {
            boolean well = readTerm(text, open);
            for (int i = 0; i < TAPE && well; i++) {
                int sign = tape.tokenAt(at);
                if (sign != '+' && sign != '-') {
                    break;
                }
                at++;
                well = readTerm(text, open);
                text.keep(-sign);
            }
            return well;
        }

        private boolean readTerm(Text text, int open) {
            boolean well = readOne(text, open);
            for (int i = 0; i < TAPE && well && passed('*'); i++) {
                well = readOne(text, open);
                text.keep(-'*');
            }
            return well;
        }

        private boolean readOne(Text text, int open) {
            int token = tape.tokenAt(at);
            if (token == DIGITS_TOKEN) {
                text.keep(tape.numberAt(at));
                at++;
                return true;
            }
            if (token >= PLACE && token <= SIDE) {
                text.keep(-token);
                at++;
                return true;
            }
            if (token != '-' && token != '(' || open >= OPEN) {
                return false;
            }
            at++;
            if (token == '(') {
                return readOr(text, open + 1) && passed(')');
            }
            boolean well = readOne(text, open + 1);
            text.keep(-NEGATE);
            return well;
        }
    }

    /** Reckons the parts of a TEXT, of a GLOVE on a DAY. */
    private static final class Reckoner {
        private final int[] stack = new int[TAPE];
        private int top;
        private int place;
        private int height;
        private int day;
        private int number;
        private int far;
        private int side;

        void lookAt(Glove glove, int itsPlace, int onDay, int from) {
            place = itsPlace;
            height = glove.height;
            day = onDay;
            number = glove.number;
            far = Math.abs(itsPlace - from);
            side = glove.side;
        }

        int reckon(Text rule, int part) {
            top = 0;
            int end = Math.min(rule.endOf(part), TAPE);
            for (int i = rule.startOf(part); i < end; i++) {
                int item = rule.itemAt(i);
                if (item >= 0) {
                    push(item);
                } else if (item >= -SIDE) {
                    push(named(-item));
                } else {
                    operate(-item);
                }
            }
            return pop();
        }

        private void push(int value) {
            if (top >= 0 && top < stack.length) {
                stack[top] = value;
                top++;
            }
        }

        private int pop() {
            if (top < 1 || top > stack.length) {
                return 0;
            }
            top--;
            return stack[top];
        }

        private int named(int name) {
            switch (name) {
                case PLACE:
                    return place;
                case HEIGHT:
                    return height;
                case DAY:
                    return day;
                case NUMBER:
                    return number;
                case FAR:
                    return far;
                default:
                    return side;
            }
        }

        private void operate(int token) {
            int right = pop();
            if (token == NOT) {
                push(right == 0 ? 1 : 0);
            } else if (token == NEGATE) {
                push(-right);
            } else {
                push(joined(token, pop(), right));
            }
        }

        /** True is 1, false 0; what is not 0 is true. */
        private static int joined(int token, int left, int right) {
            switch (token) {
                case OR:
                    return left != 0 || right != 0 ? 1 : 0;
                case AND:
                    return left != 0 && right != 0 ? 1 : 0;
                case '<':
                    return left < right ? 1 : 0;
                case '=':
                    return left == right ? 1 : 0;
                case '+':
                    return left + right;
                case '-':
                    return left - right;
                default:
                    return left * right;
            }
        }
    }

    /** A GLOVE's DAYS: where it is on each, what the TEXT tells of it, how LIKELY it is seen. */
    private static final class Course {
        private final int[] where = new int[DAYS];
        private final int[] told = new int[DAYS];
        private final int[] likely = new int[DAYS];
        private final Reckoner reckoner = new Reckoner();

        /** Walks the DAYS with it; FROM is needed for how far off it is. */
        void follow(Text rule, Glove glove, int from) {
            int gone = glove.lasts();
            int place = glove.place;
            for (int day = 0; day < where.length; day++) {
                if (day >= gone) {
                    where[day] = NONE;
                } else {
                    where[day] = place;
                    reckoner.lookAt(glove, place, day, from);
                    int moves = within(reckoner.reckon(rule, MOVES_PART), 1 - PLACES, PLACES - 1);
                    place = within(place + glove.moving(moves), 0, PLACES - 1);
                }
            }
        }

        /** Asks what the TEXT's shows tells on each DAY of those that were followed. */
        void ask(Text rule, Glove glove, int from) {
            for (int day = 0; day < told.length; day++) {
                int place = whereOn(day);
                if (place == NONE) {
                    told[day] = 0;
                } else {
                    reckoner.lookAt(glove, place, day, from);
                    told[day] = within(reckoner.reckon(rule, SHOWS_PART), 0, 100);
                }
            }
        }

        /** Lets her pass on each DAY of those that were asked for. */
        void pass(Glove glove, Walk walk) {
            for (int day = 0; day < likely.length && day < told.length; day++) {
                likely[day] = walk.passes(whereOn(day)) ? glove.showing(told[day], walk.side) : 0;
            }
        }

        int whereOn(int day) {
            return day >= 0 && day < where.length ? where[day] : NONE;
        }

        int likelyOn(int day) {
            return day >= 0 && day < likely.length ? likely[day] : 0;
        }

        int mindsOn(int day, Text rule, Glove glove, int from) {
            int place = whereOn(day);
            if (place == NONE) {
                return 0;
            }
            reckoner.lookAt(glove, place, day, from);
            return within(reckoner.reckon(rule, MINDS_PART), 0, 99);
        }

        long partsBy(int n) {
            long left = WHOLE;
            for (int day = 0; day < n && day < DAYS; day++) {
                left = left * (100 - likelyOn(day)) / 100;
            }
            return WHOLE - left;
        }

        int seenBy(int seed) {
            int z = seed;
            for (int day = 0; day < DAYS; day++) {
                z = z * 1103515245 + 12345;
                if ((z >>> 9) % 100 < likelyOn(day)) {
                    return day;
                }
            }
            return NONE;
        }
    }

    /** A SHEET: a row of numbers of a sort, or missing. */
    private static final class Row {
        private final int[] items = new int[ITEMS];
        private int sort = MISSING;
        private int size;

        void become(int itsSort, int itsSize) {
            sort = itsSort;
            size = itsSize;
            for (int i = 0; i < items.length; i++) {
                items[i] = 0;
            }
        }

        boolean isMissing() {
            return sort == MISSING;
        }

        boolean has(int i) {
            return i >= 0 && i < size && i < items.length;
        }

        int itemAt(int i) {
            return has(i) ? items[i] : 0;
        }

        void put(int i, int v) {
            if (!has(i)) {
                return;
            }
            if (sort == BYTES) {
                items[i] = (byte) v;
            } else if (sort == SHORTS) {
                items[i] = (short) v;
            } else {
                items[i] = v;
            }
        }

        boolean hasAll(int from, int n) {
            return from >= 0 && n >= 0 && n <= size && from <= size - n && size <= items.length;
        }

        /** Takes them as they were, also when both rows are one and the same. */
        void take(Row other, int from, int to, int n) {
            if (other.hasAll(from, n) && hasAll(to, n)) {
                System.arraycopy(other.items, from, items, to, n);
            }
        }
    }

    /** AN IMAGE. */
    private static final class Image {
        private final Glove[] kept = new Glove[GLOVES];
        private final Walk walk = new Walk();
        private int count;
        private int rule;
        private boolean isThere;

        Image() {
            for (int i = 0; i < kept.length; i++) {
                kept[i] = new Glove();
            }
        }

        void keep(Walk herWalk, int itsRule, int gloveCount) {
            walk.become(herWalk.from, herWalk.to, herWalk.side);
            rule = itsRule;
            count = gloveCount;
            isThere = true;
        }

        Glove keptAt(int i) {
            return i >= 0 && i < kept.length ? kept[i] : null;
        }
    }

    private final Glove[] hung = new Glove[GLOVES];
    private int gloveCount;
    private final Walk herWalk = new Walk();
    private final Text[] texts = new Text[TEXTS];
    private int textCount;
    private int rule;
    private final Reader reader = new Reader();
    private final Row[] rows = new Row[SHEETS];
    private final Image image = new Image();
    private final Course course = new Course();
    // What would be, were it hung up otherwise, were she to walk otherwise.
    private final Glove otherGlove = new Glove();
    private final Walk otherWalk = new Walk();

    public OneGlove() {
        for (int i = 0; i < hung.length; i++) {
            hung[i] = new Glove();
        }
        for (int i = 0; i < texts.length; i++) {
            texts[i] = new Text();
        }
        for (int i = 0; i < rows.length; i++) {
            rows[i] = new Row();
        }
        herWalk.become(0, PLACES - 1, 0);
        for (int i = 0; i < FIRST_RULE.length(); i++) {
            reader.tape.add(FIRST_RULE.charAt(i));
        }
        reader.read(texts[0]);
        reader.tape.empty();
        textCount = 1;
    }

    // ---- the street, gloves

    public int set(int what, int of, int v) {
        if (v < 0 || v >= countOf(what)) {
            return BAD;
        }
        if (what <= HER_SIDE) {
            return setWalk(what, v);
        }
        Glove one = gloveAt(of);
        return one == null ? BAD : setGlove(one, what, v);
    }

    private static int countOf(int what) {
        switch (what) {
            case FROM:
            case TO:
            case PLACE_OF:
                return PLACES;
            case HER_SIDE:
            case SIDE_OF:
                return SIDES;
            case NUMBER_OF:
                return NUMBERS;
            case HEIGHT_OF:
                return HEIGHTS;
            default:
                return 0;
        }
    }

    private int setWalk(int what, int v) {
        int was = toldOfWalk(what);
        if (what == FROM) {
            herWalk.from = v;
        } else if (what == TO) {
            herWalk.to = v;
        } else {
            herWalk.side = v;
        }
        return was;
    }

    private static int setGlove(Glove one, int what, int v) {
        int was = toldOfGlove(one, what);
        switch (what) {
            case NUMBER_OF:
                one.number = v;
                break;
            case PLACE_OF:
                one.place = v;
                break;
            case HEIGHT_OF:
                one.height = v;
                break;
            default:
                one.side = v;
                break;
        }
        return was;
    }

    public int glove(int kind, int number, int place) {
        if (!isGlove(kind, number, place)) {
            return BAD;
        }
        return hangUp(kind, number, place) ? gloveCount - 1 : FULL;
    }

    private static boolean isGlove(int kind, int number, int place) {
        return isIn(kind, KINDS) && isIn(number, NUMBERS) && isIn(place, PLACES);
    }

    /** Whether there was room for it. */
    private boolean hangUp(int kind, int number, int place) {
        if (gloveCount < 0 || gloveCount >= hung.length) {
            return false;
        }
        hung[gloveCount].come(kind, number, place);
        gloveCount++;
        return true;
    }

    public int told(int of, int what) {
        if (what < FROM || what > LASTS_OF) {
            return BAD;
        }
        if (what <= HER_SIDE) {
            return toldOfWalk(what);
        }
        Glove one = gloveAt(of);
        return one == null ? BAD : toldOfGlove(one, what);
    }

    private int toldOfWalk(int what) {
        if (what == FROM) {
            return herWalk.from;
        }
        return what == TO ? herWalk.to : herWalk.side;
    }

    private static int toldOfGlove(Glove one, int what) {
        switch (what) {
            case NUMBER_OF:
                return one.number;
            case PLACE_OF:
                return one.place;
            case HEIGHT_OF:
                return one.height;
            case SIDE_OF:
                return one.side;
            case KIND_OF:
                return one.kind;
            default:
                return one.lasts();
        }
    }

    // ---- texts

    public int feed(int letter) {
        if (!isIn(letter, 256)) {
            return BAD;
        }
        return reader.tape.add(letter) ? reader.tape.size : FULL;
    }

    public int text() {
        if (textCount < 0 || textCount >= texts.length) {
            return FULL;
        }
        int fault = reader.read(texts[textCount]);
        reader.tape.empty();
        if (fault != NONE) {
            return FAULT - fault;
        }
        textCount++;
        return textCount - 1;
    }

    public int force(int text) {
        if (!isIn(text, textCount)) {
            return BAD;
        }
        int was = rule;
        rule = text;
        return was;
    }

    // ---- day by day

    public int day(int glove, int day, int what) {
        Glove one = gloveAt(glove);
        if (one == null || !isIn(day, DAYS) || !isIn(what, 3)) {
            return BAD;
        }
        follow(one);
        if (what == 0) {
            return course.whereOn(day);
        }
        return what == 1 ? course.likelyOn(day) : mindsOn(day, one);
    }

    public long found(int glove, int n, int part) {
        Glove one = gloveAt(glove);
        if (one == null || !isIn(n, FOUND_DAYS + 1) || !isIn(part, 2)) {
            return NO;
        }
        follow(one);
        long all = 1;
        long unseen = 1;
        for (int day = 0; day < n && day < FOUND_DAYS; day++) {
            all *= 100;
            unseen *= 100 - course.likelyOn(day);
        }
        return lowest(all - unseen, all, part);
    }

    public long parts(int glove, int n) {
        Glove one = gloveAt(glove);
        if (one == null || !isIn(n, DAYS + 1)) {
            return NO;
        }
        return partsOf(one, n);
    }

    public long waiting(int glove, int n) {
        Glove one = gloveAt(glove);
        if (one == null || !isIn(n, DAYS + 1)) {
            return NO;
        }
        follow(one);
        long together = 0;
        long left = LEFT_AT_FIRST;
        for (int day = 0; day < n && day < DAYS; day++) {
            together += left * mindsOn(day, one);
            left = left * (100 - course.likelyOn(day)) / 100;
        }
        return together;
    }

    // ---- what would be best

    public long hang(int glove, int what) {
        Glove one = gloveAt(glove);
        if (one == null || !isIn(what, 2)) {
            return NO;
        }
        otherGlove.become(one);
        long most = NONE;
        int which = 0;
        for (int place = 0; place < PLACES; place++) {
            for (int height = 0; height < HEIGHTS; height++) {
                otherGlove.place = place;
                otherGlove.height = height;
                long parts = partsOf(otherGlove, DAYS);
                if (parts > most) {
                    most = parts;
                    which = 10 * place + height;
                }
            }
        }
        return what == 0 ? which : most;
    }

    public long walk(int glove, int what) {
        Glove one = gloveAt(glove);
        if (one == null || !isIn(what, 2)) {
            return NO;
        }
        long most = NO;
        long partsThen = 0;
        int which = 0;
        for (int from = 0; from < PLACES; from++) {
            // Neither TO nor her SIDE changes where it is, nor what shows tells.
            course.follow(ruleText(), one, from);
            course.ask(ruleText(), one, from);
            for (int i = from * SIDES; i < PLACES * SIDES; i++) {
                otherWalk.become(from, i / SIDES, i % SIDES);
                course.pass(one, otherWalk);
                long parts = course.partsBy(DAYS);
                long worth = parts - (long) PLACE_COSTS * otherWalk.passed();
                if (worth > most) {
                    most = worth;
                    partsThen = parts;
                    which = 1000 * from + 10 * otherWalk.to + otherWalk.side;
                }
            }
        }
        return what == 0 ? which : partsThen;
    }

    public int best(int glove, int what) {
        Glove one = gloveAt(glove);
        if (one == null || !isIn(what, 2)) {
            return BAD;
        }
        follow(one);
        int which = 0;
        for (int day = 1; day < DAYS; day++) {
            if (course.likelyOn(day) > course.likelyOn(which)) {
                which = day;
            }
        }
        return what == 0 ? which : course.likelyOn(which);
    }

    public long first(int n, int what) {
        if (!isIn(n, DAYS + 1) || !isIn(what, 2)) {
            return NO;
        }
        long most = NONE;
        int which = NONE;
        for (int i = 0; i < GLOVES; i++) {
            Glove one = gloveAt(i);
            long parts = one == null ? NONE : partsOf(one, n);
            if (parts > most) {
                most = parts;
                which = i;
            }
        }
        return what == 0 ? which : most;
    }

    public int giveUp(int glove, int k) {
        Glove one = gloveAt(glove);
        if (one == null || k < 1 || k > 100) {
            return BAD;
        }
        follow(one);
        int day = DAYS;
        while (day > 0 && course.likelyOn(day - 1) < k) {
            day--;
        }
        return day;
    }

    // ---- days that were told

    public int tells(int sheet, int glove, int what) {
        Row row = rowAt(sheet);
        Glove one = gloveAt(glove);
        if (row == null || one == null || what < OTHERWISE || what > BY_TEXT) {
            return BAD;
        }
        if (row.isMissing()) {
            return NOTHING;
        }
        if (row.size > DAYS) {
            return BAD;
        }
        return what == OTHERWISE ? otherwiseOn(row, one, ruleText()) : allThatTell(row, one, what);
    }

    private int otherwiseOn(Row row, Glove one, Text text) {
        course.follow(text, one, herWalk.from);
        for (int day = 0; day < row.size && day < DAYS; day++) {
            if (row.itemAt(day) != course.whereOn(day)) {
                return day;
            }
        }
        return NONE;
    }

    private int allThatTell(Row row, Glove one, int what) {
        int bits = 0;
        int count = triesOf(what);
        for (int i = 0; i < count; i++) {
            otherGlove.become(one);
            change(otherGlove, what, i);
            Text text = what == BY_TEXT ? textAt(i) : ruleText();
            if (otherwiseOn(row, otherGlove, text) == NONE) {
                bits |= 1 << i;
            }
        }
        return bits;
    }

    private int triesOf(int what) {
        switch (what) {
            case BY_KIND:
                return KINDS;
            case BY_NUMBER:
                return NUMBERS;
            case BY_PLACE:
                return PLACES;
            case BY_HEIGHT:
                return HEIGHTS;
            default:
                return textCount;
        }
    }

    private static void change(Glove one, int what, int v) {
        switch (what) {
            case BY_KIND:
                one.kind = v;
                break;
            case BY_NUMBER:
                one.number = v;
                break;
            case BY_PLACE:
                one.place = v;
                break;
            case BY_HEIGHT:
                one.height = v;
                break;
            default:
                break;
        }
    }

    public int film(int sheet, int glove, int n) {
        Row row = rowAt(sheet);
        Glove one = gloveAt(glove);
        if (row == null || one == null || !isIn(n, DAYS + 1)) {
            return BAD;
        }
        course.follow(ruleText(), one, herWalk.from);
        row.become(BYTES, n);
        for (int day = 0; day < n && day < DAYS; day++) {
            row.put(day, course.whereOn(day));
        }
        return n;
    }

    public int lot(int glove, int seed) {
        Glove one = gloveAt(glove);
        if (one == null) {
            return BAD;
        }
        follow(one);
        return course.seenBy(seed);
    }

    public long chance(int glove, int seed, int n, int part) {
        Glove one = gloveAt(glove);
        if (one == null || n < 1 || n > SEEDS || !isIn(part, 2)) {
            return NO;
        }
        follow(one);
        int seen = 0;
        for (int i = 0; i < n && i < SEEDS; i++) {
            if (course.seenBy(seed + i) != NONE) {
                seen++;
            }
        }
        return lowest(seen, n, part);
    }

    public int image() {
        image.keep(herWalk, rule, gloveCount);
        for (int i = 0; i < GLOVES; i++) {
            Glove one = gloveAt(i);
            Glove kept = image.keptAt(i);
            if (one != null && kept != null) {
                kept.become(one);
            }
        }
        return gloveCount;
    }

    public int back() {
        if (!image.isThere) {
            return STATE;
        }
        herWalk.become(image.walk.from, image.walk.to, image.walk.side);
        rule = image.rule;
        gloveCount = image.count;
        for (int i = 0; i < GLOVES; i++) {
            Glove one = gloveAt(i);
            Glove kept = image.keptAt(i);
            if (one != null && kept != null) {
                one.become(kept);
            }
        }
        return gloveCount;
    }

    public int count(int what) {
        switch (what) {
            case 0:
                return gloveCount;
            case 1:
                return herWalk.passed();
            case 2:
                return textCount;
            case 3:
                return reader.tape.size;
            case 4:
                return rule;
            default:
                return BAD;
        }
    }

    // ---- the host

    public int sheet(int sheet, int sort, int n) {
        Row row = rowAt(sheet);
        if (row == null || sort < MISSING || sort > INTS) {
            return BAD;
        }
        if (sort == MISSING) {
            row.become(MISSING, 0);
            return 1;
        }
        if (n > ITEMS) {
            return BAD;
        }
        if (n < 0) {
            return BELOW;
        }
        row.become(sort, n);
        return 1;
    }

    public int cell(int sheet, int i, int v) {
        Row row = rowAt(sheet);
        if (row == null) {
            return BAD;
        }
        if (row.isMissing()) {
            return NOTHING;
        }
        if (!row.has(i)) {
            return OUTSIDE;
        }
        row.put(i, v);
        return 1;
    }

    public int copy(int sheet, int i, int other, int j, int n) {
        Row from = rowAt(sheet);
        Row to = rowAt(other);
        if (from == null || to == null) {
            return BAD;
        }
        if (from.isMissing() || to.isMissing()) {
            return NOTHING;
        }
        if (from.sort != to.sort) {
            return UNLIKE;
        }
        if (!from.hasAll(i, n) || !to.hasAll(j, n)) {
            return OUTSIDE;
        }
        to.take(from, i, j, n);
        return n;
    }

    public int gloves(int sheet, int sort, int from, int n) {
        Row row = rowAt(sheet);
        if (row == null || !isIn(sort, INTS + 1) || !isIn(n, GLOVES + 1)) {
            return BAD;
        }
        if (!row.isMissing() && row.sort != sort) {
            return UNLIKE;
        }
        if (row.isMissing()) {
            return NOTHING;
        }
        int came = 0;
        int at = from;
        for (int k = 0; k < n && k < GLOVES; k++) {
            if (!row.hasAll(at, 3)) {
                return OUTSIDE;
            }
            int kind = row.itemAt(at);
            int number = row.itemAt(at + 1);
            int place = row.itemAt(at + 2);
            if (isGlove(kind, number, place) && hangUp(kind, number, place)) {
                came++;
            }
            at += 3;
        }
        return came;
    }

    public int taken(int glove, int k) {
        if (!isIn(k, KINDS)) {
            return BAD;
        }
        Glove one = gloveAt(glove);
        if (one == null) {
            return NOTHING;
        }
        return one.isUnder(k) ? one.number : UNLIKE;
    }

    // ---- what several calls need

    private Glove gloveAt(int i) {
        return i >= 0 && i < gloveCount && i < hung.length ? hung[i] : null;
    }

    private Row rowAt(int i) {
        return i >= 0 && i < rows.length ? rows[i] : null;
    }

    private Text textAt(int i) {
        return texts[i >= 0 && i < textCount && i < texts.length ? i : 0];
    }

    private Text ruleText() {
        return textAt(rule);
    }

    private void follow(Glove one) {
        course.follow(ruleText(), one, herWalk.from);
        course.ask(ruleText(), one, herWalk.from);
        course.pass(one, herWalk);
    }

    private int mindsOn(int day, Glove one) {
        return course.mindsOn(day, ruleText(), one, herWalk.from);
    }

    private long partsOf(Glove one, int n) {
        follow(one);
        return course.partsBy(n);
    }

    private static boolean isIn(int v, int bound) {
        return v >= 0 && v < bound;
    }

    private static int within(int v, int low, int high) {
        return Math.max(low, Math.min(high, v));
    }

    /** A fraction's part in lowest terms: 0 above, 1 below the line. */
    private static long lowest(long above, long below, int part) {
        long divisor = above;
        long rest = below;
        // Euclid is through long before: two numbers under 2^63 take fewer than 100 steps.
        for (int i = 0; i < 1000 && divisor != 0; i++) {
            long next = rest % divisor;
            rest = divisor;
            divisor = next;
        }
        if (rest == 0) {
            return part == 0 ? above : below;
        }
        return (part == 0 ? above : below) / rest;
    }
}
