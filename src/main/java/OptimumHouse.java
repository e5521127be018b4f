import java.util.Arrays;

/**
 * A house for linear and whole-number programs: models are told as texts, solved exactly by
 * dictionaries of whole numbers, and each answer comes with a proof that a checker can hold
 * against the model.
 */
public final class OptimumHouse {
    public static final int NONE = -1;

    private static final int TAPE_BYTES = 30000;
    /** More than a fraction of two numbers below 10 to the power 54 has. */
    private static final int LINE_BYTES = 120;
    private static final int MOST_VARIABLES = 12;
    private static final int MOST_ROWS = 40;
    private static final int BLANK = 32;
    private static final int NEW_LINE = 10;

    private final Text tape;
    private final Text line;
    private final Teller teller;
    private final Search search;
    private final Checker checker;
    private Model model;
    private Model spare;
    private boolean hasModel;
    private boolean begun;
    private int faultKind;
    private int faultPlace;

    public OptimumHouse() {
        // All that calls will ever need is made here, at its full size, so that calls make nothing.
        tape = new Text(TAPE_BYTES);
        line = new Text(LINE_BYTES);
        model = new Model();
        spare = new Model();
        teller = new Teller();
        search = new Search();
        checker = new Checker();
        faultPlace = NONE;
    }

    public int feed(int a, int b, int c, int d, int e) {
        if (tape.length() + 20 > TAPE_BYTES) {
            return NONE;
        }
        tape.putFour(a);
        tape.putFour(b);
        tape.putFour(c);
        tape.putFour(d);
        tape.putFour(e);
        return tape.length();
    }

    public boolean end(int n) {
        return tape.shorten(n);
    }

    public int tell() {
        faultKind = teller.read(tape, spare);
        faultPlace = teller.faultPlace();
        tape.clear();
        if (faultKind == 0) {
            Model before = model;
            model = spare;
            spare = before;
            hasModel = true;
            begun = false;
        }
        return faultKind;
    }

    public int fault(int what) {
        switch (what) {
            case 0:
                return faultKind;
            case 1:
                return faultPlace;
            default:
                return NONE;
        }
    }

    public int size(int what) {
        if (what < 0 || what > 3) {
            return NONE;
        }
        if (!hasModel) {
            return 0;
        }
        switch (what) {
            case 0:
                return model.variables;
            case 1:
                return model.rows;
            case 2:
                return model.wholes();
            default:
                return model.max ? 1 : 0;
        }
    }

    public long coefficient(int k, int j) {
        if (!hasModel || j < 0 || j > model.variables || k < 0) {
            return 0;
        }
        if (begun) {
            return search.rowNumber(k, j);
        }
        return k <= model.rows ? model.number(k, j) : 0;
    }

    public boolean begin(int cuts) {
        if (!hasModel || cuts < 0 || cuts > 20) {
            return false;
        }
        search.start(model, cuts);
        begun = true;
        return true;
    }

    public int work(int n) {
        if (n < 1 || n > 500) {
            return NONE;
        }
        if (!begun) {
            return 0;
        }
        int done = search.run(n);
        search.prove();
        return done;
    }

    public int look(int what) {
        if (what < 0 || what > 9) {
            return NONE;
        }
        if (what == 9) {
            return tape.length();
        }
        return begun ? search.state(what) : 0;
    }

    public int place(int i) {
        return begun ? search.dictionary.numberAt(i) : NONE;
    }

    public int entry(int i, int j, int k) {
        if (!begun || !search.dictionary.write(i, j, line)) {
            return NONE;
        }
        return line.byteAt(k);
    }

    public int told(int j, int k) {
        if (!begun || !search.writeFraction(j, line)) {
            return NONE;
        }
        return line.byteAt(k);
    }

    public int proof(int k) {
        return begun && search.isProved() ? search.prover.proofByte(k) : NONE;
    }

    public int check() {
        faultKind = 0;
        faultPlace = NONE;
        if (!hasModel) {
            tape.clear();
            return NONE;
        }
        faultKind = checker.hold(tape, model);
        faultPlace = checker.faultPlace();
        tape.clear();
        return faultKind;
    }

    /** A row of bytes up to a limit; what would pass the limit is marked and left out. */
    private static final class Text {
        private final byte[] bytes;
        private int length;
        private boolean over;

        Text(int limit) {
            bytes = new byte[Math.max(limit, 0)];
        }

        int length() {
            return length;
        }

        boolean isOver() {
            return over;
        }

        void clear() {
            length = 0;
            over = false;
        }

        int byteAt(int k) {
            return k < 0 || k >= length ? NONE : bytes[k] & 255;
        }

        boolean shorten(int n) {
            if (n < 0 || n > length) {
                return false;
            }
            length = n;
            return true;
        }

        void put(int value) {
            if (length >= bytes.length) {
                over = true;
                return;
            }
            bytes[length] = (byte) value;
            length++;
        }

        void putFour(int value) {
            put(value >>> 24);
            put(value >>> 16);
            put(value >>> 8);
            put(value);
        }

        void word(String word) {
            if (length > 0) {
                put(BLANK);
            }
            for (int i = 0; i < word.length(); i++) {
                put(word.charAt(i));
            }
        }

        /** A token that is a small number, 0 or more. */
        void count(int value) {
            if (length > 0) {
                put(BLANK);
            }
            boolean started = false;
            for (int unit = 1000000000; unit > 0; unit /= 10) {
                int digit = value / unit % 10;
                started = started || digit != 0 || unit == 1;
                if (started) {
                    put('0' + digit);
                }
            }
        }

        /** A number, behind a blank if it stands apart from what is there. */
        void number(Big value, boolean apart) {
            if (apart && length > 0) {
                put(BLANK);
            }
            if (value.sign < 0) {
                put('-');
            }
            if (value.sign == 0) {
                put('0');
            }
            boolean started = false;
            for (int i = value.count - 1; i >= 0; i--) {
                for (int unit = Big.BASE / 10; unit > 0; unit /= 10) {
                    int digit = value.limbs[i] / unit % 10;
                    started = started || digit != 0;
                    if (started) {
                        put('0' + digit);
                    }
                }
            }
        }
    }

    /**
     * A register for a whole number of up to 32 limbs of nine digits. Numbers at rest lie in
     * SLOTs of int arrays: the limbs' count with the number's sign, then up to seven limbs.
     */
    private static final class Big {
        static final int BASE = 1000000000;
        static final int SLOT = 8;
        private static final int LIMBS = 32;

        private final int[] limbs = new int[LIMBS];
        private int count;
        private int sign;

        static void store(int[] cells, int at, long value) {
            long rest = Math.abs(value);
            int used = 0;
            for (int i = 1; i <= 3 && rest != 0; i++) {
                cells[at + i] = (int) (rest % BASE);
                rest /= BASE;
                used = i;
            }
            cells[at] = value < 0 ? -used : used;
        }

        static void move(int[] from, int[] to, int at, int turn) {
            int head = from[at];
            int used = Math.abs(head);
            to[at] = turn < 0 ? -head : head;
            for (int i = at + 1; i <= at + used; i++) {
                to[i] = from[i];
            }
        }

        void put(long value) {
            long rest = value;
            count = 0;
            for (int i = 0; i < 3; i++) {
                limbs[i] = (int) Math.abs(rest % BASE);
                rest /= BASE;
                if (limbs[i] != 0) {
                    count = i + 1;
                }
            }
            sign = Long.signum(value);
        }

        void copy(Big other) {
            System.arraycopy(other.limbs, 0, limbs, 0, other.count);
            count = other.count;
            sign = other.sign;
        }

        void load(int[] cells, int at) {
            int head = cells[at];
            sign = Integer.signum(head);
            count = Math.min(Math.abs(head), SLOT - 1);
            for (int i = 0; i < count; i++) {
                limbs[i] = cells[at + 1 + i];
            }
        }

        void save(int[] cells, int at) {
            int used = Math.min(count, SLOT - 1);
            cells[at] = sign < 0 ? -used : used;
            for (int i = 0; i < used; i++) {
                cells[at + 1 + i] = limbs[i];
            }
        }

        void turn() {
            sign = -sign;
        }

        /** Reads the digits from a text, first .. behind - 1; a number of too many digits is cut. */
        void read(Text text, int first, int behind) {
            count = Math.min((behind - first + 8) / 9, LIMBS);
            for (int i = 0; i < count; i++) {
                int limb = 0;
                int last = behind - 9 * i;
                for (int k = Math.max(first, last - 9); k < last; k++) {
                    limb = 10 * limb + text.byteAt(k) - '0';
                }
                limbs[i] = limb;
            }
            sign = 1;
            trim();
        }

        int digitCount() {
            if (count == 0) {
                return 1;
            }
            int digits = 9 * (count - 1);
            for (int rest = limbs[count - 1]; rest > 0; rest /= 10) {
                digits++;
            }
            return digits;
        }

        long lowBits() {
            long value = 0;
            for (int i = count - 1; i >= 0; i--) {
                value = value * BASE + limbs[i];
            }
            return sign < 0 ? -value : value;
        }

        private void trim() {
            while (count > 0 && limbs[count - 1] == 0) {
                count--;
            }
            if (count == 0) {
                sign = 0;
            }
        }

        /** Becomes a times b, neither of which is this register. */
        void product(Big a, Big b) {
            int width = a.count + b.count;
            if (a.sign == 0 || b.sign == 0 || width > LIMBS) {
                put(0);
                return;
            }
            Arrays.fill(limbs, 0, width, 0);
            for (int i = 0; i < a.count; i++) {
                long factor = a.limbs[i];
                long carry = 0;
                for (int j = 0; j < b.count; j++) {
                    long sum = limbs[i + j] + factor * b.limbs[j] + carry;
                    carry = sum / BASE;
                    limbs[i + j] = (int) (sum - carry * BASE);
                }
                limbs[i + b.count] = (int) carry;
            }
            count = width;
            sign = a.sign * b.sign;
            trim();
        }

        /** Adds the other number, or takes it away if turn is -1. */
        void add(Big other, int turn) {
            int otherSign = turn * other.sign;
            if (otherSign == 0) {
                return;
            }
            if (sign == 0) {
                copy(other);
                sign = otherSign;
            } else if (sign == otherSign) {
                addSize(other);
            } else {
                int order = compareSize(other);
                if (order >= 0) {
                    takeSize(this, other);
                } else {
                    takeSize(other, this);
                    sign = otherSign;
                }
                trim();
            }
        }

        private void addSize(Big other) {
            int width = Math.max(count, other.count);
            int carry = 0;
            for (int i = 0; i < width; i++) {
                int sum = carry + (i < count ? limbs[i] : 0) + (i < other.count ? other.limbs[i] : 0);
                carry = sum >= BASE ? 1 : 0;
                limbs[i] = sum - carry * BASE;
            }
            if (carry > 0 && width < LIMBS) {
                limbs[width] = carry;
                width++;
            }
            count = width;
        }

        /** Becomes the size of more less that of less; one of them is this register. */
        private void takeSize(Big more, Big less) {
            int width = more.count;
            int lessWidth = less.count;
            int borrow = 0;
            for (int i = 0; i < width; i++) {
                int rest = more.limbs[i] - borrow - (i < lessWidth ? less.limbs[i] : 0);
                borrow = rest < 0 ? 1 : 0;
                limbs[i] = rest + borrow * BASE;
            }
            count = width;
        }

        private int compareSize(Big other) {
            if (count != other.count) {
                return Integer.compare(count, other.count);
            }
            for (int i = count - 1; i >= 0; i--) {
                if (limbs[i] != other.limbs[i]) {
                    return Integer.compare(limbs[i], other.limbs[i]);
                }
            }
            return 0;
        }

        int compareWith(Big other) {
            if (sign != other.sign) {
                return Integer.compare(sign, other.sign);
            }
            return sign * compareSize(other);
        }

        /** The quotient is rounded down, the rest (0 .. by - 1) stays here; by is above 0. */
        void divide(Big by, Big quotient, Big help) {
            quotient.put(0);
            if (by.sign <= 0) {
                return;
            }
            boolean below = sign < 0;
            sign = Math.abs(sign);
            if (by.count == 1) {
                quotient.copy(this);
                put(quotient.reduce(by.limbs[0]));
            } else if (compareSize(by) >= 0) {
                divideLong(by, quotient, help);
            }
            if (below) {
                quotient.turn();
                if (sign != 0) {
                    help.put(1);
                    quotient.add(help, -1);
                    turn();
                    add(by, 1);
                }
            }
        }

        /** Divides the size in place by a small number; answers the rest. */
        private int reduce(int by) {
            if (by <= 0) {
                return 0;
            }
            long rest = 0;
            for (int i = count - 1; i >= 0; i--) {
                long part = rest * BASE + limbs[i];
                limbs[i] = (int) (part / by);
                rest = part % by;
            }
            while (count > 0 && limbs[count - 1] == 0) {
                count--;
            }
            sign = count == 0 ? 0 : sign;
            return (int) rest;
        }

        /** Multiplies the size in place by a small number; the limb above the top one is set, too. */
        private void scale(int factor) {
            long carry = 0;
            for (int i = 0; i < count; i++) {
                long part = (long) limbs[i] * factor + carry;
                carry = part / BASE;
                limbs[i] = (int) (part - carry * BASE);
            }
            if (count < LIMBS) {
                limbs[count] = (int) carry;
            }
        }

        /** The school's way, with divisors so scaled that a guessed digit is at most two too high. */
        private void divideLong(Big by, Big quotient, Big help) {
            int width = by.count;
            int length = count;
            if (length >= LIMBS || width < 2) {
                return;
            }
            int factor = BASE / (by.limbs[width - 1] + 1);
            help.copy(by);
            help.scale(factor);
            scale(factor);
            for (int at = length - width; at >= 0; at--) {
                quotient.limbs[at] = digitAt(at, help, width);
            }
            quotient.count = length - width + 1;
            quotient.sign = 1;
            quotient.trim();
            count = width;
            trim();
            reduce(factor);
        }

        /** The quotient's digit at a place; its multiple is taken away from the limbs there. */
        private int digitAt(int at, Big by, int width) {
            long lead = by.limbs[width - 1];
            if (lead <= 0) {
                return 0;
            }
            long head = (long) limbs[at + width] * BASE + limbs[at + width - 1];
            long guess = head / lead;
            long rest = head - guess * lead;
            for (int i = 0; i < 3 && rest < BASE; i++) {
                if (guess < BASE && guess * by.limbs[width - 2] <= rest * BASE + limbs[at + width - 2]) {
                    break;
                }
                guess--;
                rest += lead;
            }
            long carry = 0;
            for (int i = 0; i < width; i++) {
                long part = guess * by.limbs[i] + carry;
                carry = part / BASE;
                int left = limbs[at + i] - (int) (part - carry * BASE);
                if (left < 0) {
                    left += BASE;
                    carry++;
                }
                limbs[at + i] = left;
            }
            boolean tooMuch = limbs[at + width] < carry;
            limbs[at + width] = 0;
            if (!tooMuch) {
                return (int) guess;
            }
            int back = 0;
            for (int i = 0; i < width; i++) {
                int sum = limbs[at + i] + by.limbs[i] + back;
                back = sum >= BASE ? 1 : 0;
                limbs[at + i] = sum - back * BASE;
            }
            return (int) guess - 1;
        }
    }

    /** What a text has told: row 0 is the goal; number 0 of a row is its bound, of the goal c0. */
    private static final class Model {
        static final int MOST_TOLD_ROWS = 16;
        private static final int WIDTH = MOST_VARIABLES + 1;

        private final int[] numbers = new int[(MOST_TOLD_ROWS + 1) * WIDTH];
        private final boolean[] whole = new boolean[WIDTH];
        private int variables;
        private int rows;
        private boolean max;

        void clear() {
            variables = 0;
            rows = 0;
            max = false;
        }

        int number(int k, int j) {
            return numbers[k * WIDTH + j];
        }

        void setNumber(int k, int j, long value) {
            numbers[k * WIDTH + j] = (int) value;
        }

        void addVariables(int many, boolean areWhole) {
            for (int i = 0; i < many && variables < MOST_VARIABLES; i++) {
                variables++;
                whole[variables] = areWhole;
            }
        }

        /** Adds the row sum - bound at most 0, of a left side less its right one, turned or not. */
        void addRow(long[] difference, int turn) {
            if (rows >= MOST_TOLD_ROWS) {
                return;
            }
            rows++;
            setNumber(rows, 0, -turn * difference[0]);
            for (int j = 1; j <= variables; j++) {
                setNumber(rows, j, turn * difference[j]);
            }
        }

        void setGoal(long[] sum, boolean isMax) {
            max = isMax;
            for (int j = 0; j <= variables; j++) {
                setNumber(0, j, isMax ? sum[j] : -sum[j]);
            }
        }

        int wholes() {
            int found = 0;
            for (int j = 1; j <= variables; j++) {
                if (whole[j]) {
                    found++;
                }
            }
            return found;
        }

        boolean isWhole(int j) {
            return j >= 1 && j <= variables && whole[j];
        }

        boolean isAllWhole() {
            return wholes() == variables;
        }

        /** Whether the VALUE of a whole point must be whole, so that a bound may be rounded down. */
        boolean isGoalWhole() {
            for (int j = 1; j <= variables; j++) {
                if (number(0, j) != 0 && !whole[j]) {
                    return false;
                }
            }
            return true;
        }
    }

    /** The tokens of a model's text, and whether they stand as the grammar wants them. */
    private static final class Syntax {
        static final int MOST_BYTES = 2000;
        static final int DEPTH = 30;
        static final int END = 0;
        static final int BAD = 1;
        static final int NAME = 2;
        static final int NUMBER = 3;
        static final int MAX = 4;
        static final int MIN = 5;
        static final int SET = 6;
        static final int PAR = 7;
        static final int VAR = 8;
        static final int WHOLE = 9;
        static final int ROW = 10;
        static final int SUM = 11;
        static final int IN = 12;
        static final int EQUAL = 13;
        static final int DOTS = 14;
        static final int SEMICOLON = 15;
        static final int COMMA = 16;
        static final int OPEN = 17;
        static final int CLOSE = 18;
        static final int LEFT = 19;
        static final int RIGHT = 20;
        static final int PLUS = 21;
        static final int MINUS = 22;
        static final int STAR = 23;
        static final int COLON = 24;
        static final int AT_MOST = 25;
        static final int AT_LEAST = 26;
        /** The words MAX .. IN in their order, packed as names are: a byte for each letter. */
        private static final long[] WORDS = {0x6d6178L, 0x6d696eL, 0x736574L, 0x706172L, 0x766172L,
            0x77686f6c65L, 0x726f77L, 0x73756dL, 0x696eL};
        /** The signs of one byte, SEMICOLON .. COLON in their order. */
        private static final String SIGNS = ";,[]()+-*:";

        private final int[] kinds = new int[MOST_BYTES + 1];
        private final int[] starts = new int[MOST_BYTES + 1];
        private final long[] values = new long[MOST_BYTES + 1];
        private int tokens;
        private int at;

        int kind(int token) {
            return token >= 0 && token < tokens ? kinds[token] : END;
        }

        int start(int token) {
            return token >= 0 && token < tokens ? starts[token] : NONE;
        }

        /** A NAME, packed, or a NUMBER. */
        long value(int token) {
            return token >= 0 && token < tokens ? values[token] : 0;
        }

        int stopPlace() {
            return start(at);
        }

        int tokenCount() {
            return tokens;
        }

        /** Takes the tokens of a text, up to the first that is none. */
        void scan(Text text) {
            tokens = 0;
            int length = Math.min(text.length(), MOST_BYTES);
            int i = 0;
            for (int turn = 0; turn < MOST_BYTES && i < length; turn++) {
                i = scanOne(text, i);
                if (tokens > 0 && kinds[tokens - 1] == BAD) {
                    return;
                }
            }
            token(END, length, 0);
        }

        private void token(int kind, int start, long value) {
            if (tokens < kinds.length) {
                kinds[tokens] = kind;
                starts[tokens] = start;
                values[tokens] = value;
                tokens++;
            }
        }

        /** Takes the blank or the token at i; answers the place behind it, which is beyond i. */
        private int scanOne(Text text, int i) {
            int value = text.byteAt(i);
            if (value == BLANK || value == NEW_LINE) {
                return i + 1;
            }
            if (isLetter(value)) {
                return scanName(text, i);
            }
            if (isDigit(value)) {
                return scanNumber(text, i);
            }
            boolean twice = text.byteAt(i + 1) == (value == '.' ? '.' : '=');
            if (twice && (value == '.' || value == '<' || value == '>')) {
                token(value == '.' ? DOTS : value == '<' ? AT_MOST : AT_LEAST, i, 0);
                return i + 2;
            }
            int sign = value < 128 ? SIGNS.indexOf((char) value) : NONE;
            token(value == '=' ? EQUAL : sign >= 0 ? SEMICOLON + sign : BAD, i, 0);
            return i + 1;
        }

        private int scanName(Text text, int first) {
            long packed = 0;
            int i = first;
            for (; i < MOST_BYTES && isNamePart(text.byteAt(i)); i++) {
                packed = packed << 8 | text.byteAt(i);
            }
            int kind = i - first > 8 ? BAD : NAME;
            for (int w = 0; w < WORDS.length; w++) {
                if (kind == NAME && packed == WORDS[w]) {
                    kind = MAX + w;
                }
            }
            token(kind, first, packed);
            return i;
        }

        private int scanNumber(Text text, int first) {
            int value = 0;
            int i = first;
            for (; i < MOST_BYTES && isDigit(text.byteAt(i)); i++) {
                value = 10 * value + text.byteAt(i) - '0';
            }
            boolean bad = i - first > 5 || isLetter(text.byteAt(i));
            token(bad ? BAD : NUMBER, first, value);
            return i;
        }

        private static boolean isNamePart(int value) {
            return isLetter(value) || isDigit(value);
        }

        static boolean isLetter(int value) {
            return value >= 'a' && value <= 'z' || value >= 'A' && value <= 'Z';
        }

        static boolean isDigit(int value) {
            return value >= '0' && value <= '9';
        }

        private boolean is(int kind) {
            return at < tokens && kinds[at] == kind;
        }

        /** Passes the token if it is of that kind; answers whether it was. */
        private boolean pass(int kind) {
            if (at >= tokens || kinds[at] != kind) {
                return false;
            }
            at++;
            return true;
        }

        /** Whether the tokens are a PROGRAM; if they aren't, stopPlace() tells where that shows. */
        boolean isProgram() {
            at = 0;
            for (int i = 0; i < tokens && (is(SET) || is(PAR) || is(VAR)); i++) {
                if (!declaration()) {
                    return false;
                }
            }
            if (!is(MAX) && !is(MIN)) {
                return false;
            }
            at++;
            if (!expression(0) || !pass(SEMICOLON)) {
                return false;
            }
            for (int i = 0; i < tokens && is(ROW); i++) {
                if (!row()) {
                    return false;
                }
            }
            return is(END);
        }

        private boolean declaration() {
            int kind = kind(at);
            at++;
            if (!pass(NAME)) {
                return false;
            }
            if (kind == SET) {
                return pass(EQUAL) && pass(NUMBER) && pass(DOTS) && pass(NUMBER) && pass(SEMICOLON);
            }
            if (!indexes()) {
                return false;
            }
            if (kind == VAR) {
                pass(WHOLE);
                return pass(SEMICOLON);
            }
            return pass(EQUAL) && valueList() && pass(SEMICOLON);
        }

        private boolean indexes() {
            if (!pass(OPEN)) {
                return true;
            }
            if (!pass(NAME)) {
                return false;
            }
            if (pass(COMMA) && !pass(NAME)) {
                return false;
            }
            return pass(CLOSE);
        }

        private boolean valueList() {
            for (int i = 0; i < tokens; i++) {
                pass(MINUS);
                if (!pass(NUMBER)) {
                    return false;
                }
                if (!pass(COMMA)) {
                    return true;
                }
            }
            return false;
        }

        private boolean row() {
            at++;
            if (!pass(NAME)) {
                return false;
            }
            if (pass(OPEN) && !(pass(NAME) && pass(IN) && pass(NAME) && pass(CLOSE))) {
                return false;
            }
            if (!pass(COLON) || !expression(0)) {
                return false;
            }
            if (!is(AT_MOST) && !is(AT_LEAST) && !is(EQUAL)) {
                return false;
            }
            at++;
            return expression(0) && pass(SEMICOLON);
        }

        private boolean expression(int depth) {
            if (!term(depth)) {
                return false;
            }
            for (int i = 0; i < tokens && (is(PLUS) || is(MINUS)); i++) {
                at++;
                if (!term(depth)) {
                    return false;
                }
            }
            return true;
        }

        private boolean term(int depth) {
            if (!factor(depth)) {
                return false;
            }
            for (int i = 0; i < tokens && is(STAR); i++) {
                at++;
                if (!factor(depth)) {
                    return false;
                }
            }
            return true;
        }

        /** A F that stands within depth others. */
        private boolean factor(int depth) {
            if (depth >= DEPTH) {
                return false;
            }
            switch (kind(at)) {
                case NUMBER:
                    at++;
                    return true;
                case MINUS:
                    at++;
                    return factor(depth + 1);
                case LEFT:
                    at++;
                    return expression(depth + 1) && pass(RIGHT);
                case SUM:
                    at++;
                    return pass(NAME) && pass(IN) && pass(NAME) && pass(LEFT)
                        && expression(depth + 1) && pass(RIGHT);
                case NAME:
                    at++;
                    return !pass(OPEN) || items();
                default:
                    return false;
            }
        }

        private boolean items() {
            if (!item()) {
                return false;
            }
            if (pass(COMMA) && !item()) {
                return false;
            }
            return pass(CLOSE);
        }

        private boolean item() {
            if (pass(NUMBER)) {
                return true;
            }
            if (!pass(NAME)) {
                return false;
            }
            if (is(PLUS) || is(MINUS)) {
                at++;
                return pass(NUMBER);
            }
            return true;
        }
    }

    /** Makes a model of a text, or finds the text's first FAULT. */
    private static final class Teller {
        private static final int FAULT_SYNTAX = 1;
        private static final int FAULT_NAME = 2;
        private static final int FAULT_COUNT = 3;
        private static final int FAULT_LINEAR = 4;
        private static final int FAULT_RANGE = 5;
        private static final int FAULT_GREAT = 6;
        private static final int FAULT_MUCH = 7;
        private static final int MOST_SETS = 8;
        private static final int MOST_PARS = 12;
        private static final int MOST_IN_SET = 12;
        private static final int MOST_VALUES = MOST_IN_SET * MOST_IN_SET;
        private static final int MOST_LOOKED = 20000;
        private static final long MOST_NUMBER = 99999;
        private static final int MOST_NAMES = 128;
        private static final int WIDTH = MOST_VARIABLES + 1;
        /** What the table knows of a name: its sort (a Syntax kind; NAME for an index in sight), .. */
        private static final int FACTS = 6;
        private static final int SORT = 0;
        /** .. a set's first number, or what an index stands at; a set's last one, .. */
        private static final int LOW = 1;
        private static final int HIGH = 2;
        /** .. the sets of a par's or var's INDEXES (NONE without), .. */
        private static final int FIRST = 3;
        private static final int SECOND = 4;
        /** .. and where its values or variables are. */
        private static final int BASE = 5;

        private final Syntax syntax = new Syntax();
        private final long[] names = new long[MOST_NAMES];
        private final int[] table = new int[MOST_NAMES * FACTS];
        private final int[] values = new int[MOST_PARS * MOST_VALUES];
        private final long[][] sums = new long[Syntax.DEPTH + 1][WIDTH];
        private final long[][] products = new long[Syntax.DEPTH + 1][WIDTH];
        private final long[][] factors = new long[Syntax.DEPTH + 1][WIDTH];
        private final long[] leftSide = new long[WIDTH];
        private Model model = new Model();
        private int known;
        private int sets;
        private int pars;
        private int looked;
        private int at;
        private int faultKind;
        private int faultToken;
        private int faultAt;

        int faultPlace() {
            return faultAt;
        }

        /** 0, and the target is the text's model, or the text's FAULT. */
        int read(Text text, Model target) {
            faultKind = 0;
            faultAt = NONE;
            if (text.length() > Syntax.MOST_BYTES) {
                faultKind = FAULT_SYNTAX;
                faultAt = Syntax.MOST_BYTES;
                return faultKind;
            }
            syntax.scan(text);
            if (!syntax.isProgram()) {
                faultKind = FAULT_SYNTAX;
                faultAt = syntax.stopPlace();
                return faultKind;
            }
            model = target;
            model.clear();
            known = 0;
            sets = 0;
            pars = 0;
            looked = 0;
            at = 0;
            boolean fine = true;
            for (int i = 0; i < syntax.tokenCount() && fine && syntax.kind(at) != Syntax.END; i++) {
                switch (syntax.kind(at)) {
                    case Syntax.SET:
                        fine = tellSet();
                        break;
                    case Syntax.PAR:
                        fine = tellPar();
                        break;
                    case Syntax.VAR:
                        fine = tellVar();
                        break;
                    case Syntax.ROW:
                        fine = tellRow();
                        break;
                    default:
                        fine = tellGoal();
                        break;
                }
            }
            faultAt = fine ? NONE : syntax.start(faultToken);
            return faultKind;
        }

        private boolean fail(int kind, int token) {
            faultKind = kind;
            faultToken = token;
            return false;
        }

        /** The place of a packed name in the table; NONE without. */
        private int find(long name) {
            for (int s = 0; s < known; s++) {
                if (names[s] == name) {
                    return s;
                }
            }
            return NONE;
        }

        private int fact(int symbol, int what) {
            return table[symbol * FACTS + what];
        }

        private void setFact(int symbol, int what, int value) {
            table[symbol * FACTS + what] = value;
        }

        private boolean isSort(int symbol, int sort) {
            return symbol >= 0 && fact(symbol, SORT) == sort;
        }

        /** The new name's place in the table, or NONE, with the FAULT, if it is there already. */
        private int learn(int token, int sort) {
            if (find(syntax.value(token)) >= 0 || known >= MOST_NAMES) {
                fail(FAULT_NAME, token);
                return NONE;
            }
            int symbol = known;
            known++;
            names[symbol] = syntax.value(token);
            setFact(symbol, SORT, sort);
            setFact(symbol, FIRST, NONE);
            setFact(symbol, SECOND, NONE);
            return symbol;
        }

        private void forgetLast() {
            known--;
        }

        private int number(int token) {
            return (int) syntax.value(token);
        }

        private boolean tellSet() {
            int name = at + 1;
            int symbol = learn(name, Syntax.SET);
            if (symbol < 0) {
                return false;
            }
            int low = number(at + 3);
            int high = number(at + 5);
            if (low > high || high - low >= MOST_IN_SET) {
                return fail(FAULT_COUNT, name);
            }
            if (sets >= MOST_SETS) {
                return fail(FAULT_MUCH, name);
            }
            sets++;
            setFact(symbol, LOW, low);
            setFact(symbol, HIGH, high);
            at += 7;
            return true;
        }

        /** INDEXES from at on, if there are any. */
        private boolean tellIndexes(int symbol) {
            if (syntax.kind(at) != Syntax.OPEN) {
                return true;
            }
            for (int what = FIRST; what <= SECOND; what++) {
                int set = find(syntax.value(at + 1));
                if (!isSort(set, Syntax.SET)) {
                    return fail(FAULT_NAME, at + 1);
                }
                setFact(symbol, what, set);
                at += 2;
                if (syntax.kind(at) != Syntax.COMMA) {
                    break;
                }
            }
            at++;
            return true;
        }

        private int setSize(int set) {
            return set < 0 ? 1 : fact(set, HIGH) - fact(set, LOW) + 1;
        }

        private int asked(int symbol) {
            return setSize(fact(symbol, FIRST)) * setSize(fact(symbol, SECOND));
        }

        private boolean tellPar() {
            int name = at + 1;
            int symbol = learn(name, Syntax.PAR);
            if (symbol < 0) {
                return false;
            }
            at += 2;
            if (!tellIndexes(symbol)) {
                return false;
            }
            int asked = asked(symbol);
            int base = pars * MOST_VALUES;
            int given = 0;
            for (; given < syntax.tokenCount() && syntax.kind(at) != Syntax.SEMICOLON; given++) {
                at++;
                boolean below = syntax.kind(at) == Syntax.MINUS;
                if (below) {
                    at++;
                }
                if (given < asked && base + given < values.length) {
                    values[base + given] = below ? -number(at) : number(at);
                }
                at++;
            }
            if (given != asked) {
                return fail(FAULT_COUNT, name);
            }
            if (pars >= MOST_PARS) {
                return fail(FAULT_MUCH, name);
            }
            pars++;
            setFact(symbol, BASE, base);
            at++;
            return true;
        }

        private boolean tellVar() {
            int name = at + 1;
            int symbol = learn(name, Syntax.VAR);
            if (symbol < 0) {
                return false;
            }
            at += 2;
            if (!tellIndexes(symbol)) {
                return false;
            }
            int asked = asked(symbol);
            if (model.variables + asked > MOST_VARIABLES) {
                return fail(FAULT_MUCH, name);
            }
            boolean whole = syntax.kind(at) == Syntax.WHOLE;
            setFact(symbol, BASE, model.variables + 1);
            model.addVariables(asked, whole);
            at += whole ? 2 : 1;
            return true;
        }

        private boolean tellGoal() {
            boolean max = syntax.kind(at) == Syntax.MAX;
            at++;
            if (!expression(0)) {
                return false;
            }
            model.setGoal(sums[0], max);
            at++;
            return true;
        }

        private boolean tellRow() {
            int name = at + 1;
            if (learn(name, Syntax.ROW) < 0) {
                return false;
            }
            at += 2;
            if (syntax.kind(at) != Syntax.OPEN) {
                at++;
                return tellOneRow(name);
            }
            int set = find(syntax.value(at + 3));
            int index = learn(at + 1, Syntax.NAME);
            if (index < 0) {
                return false;
            }
            if (!isSort(set, Syntax.SET)) {
                return fail(FAULT_NAME, at + 3);
            }
            int body = at + 6;
            int high = fact(set, HIGH);
            for (int value = fact(set, LOW); value <= high; value++) {
                setFact(index, LOW, value);
                at = body;
                if (!tellOneRow(name)) {
                    return false;
                }
            }
            forgetLast();
            return true;
        }

        private boolean tellOneRow(int name) {
            if (!expression(0)) {
                return false;
            }
            System.arraycopy(sums[0], 0, leftSide, 0, WIDTH);
            int relation = at;
            at++;
            if (!expression(0)) {
                return false;
            }
            addTo(leftSide, sums[0], -1);
            if (isGreat(leftSide)) {
                return fail(FAULT_GREAT, relation);
            }
            int kind = syntax.kind(relation);
            int more = kind == Syntax.EQUAL ? 2 : 1;
            if (model.rows + more > Model.MOST_TOLD_ROWS) {
                return fail(FAULT_MUCH, name);
            }
            if (kind != Syntax.AT_LEAST) {
                model.addRow(leftSide, 1);
            }
            if (kind != Syntax.AT_MOST) {
                model.addRow(leftSide, -1);
            }
            at++;
            return true;
        }

        private static void addTo(long[] sum, long[] part, int times) {
            for (int j = 0; j < WIDTH; j++) {
                sum[j] += times * part[j];
            }
        }

        private static boolean isGreat(long[] numbers) {
            for (int j = 0; j < WIDTH; j++) {
                if (Math.abs(numbers[j]) > MOST_NUMBER) {
                    return true;
                }
            }
            return false;
        }

        private static boolean hasCoefficient(long[] numbers) {
            for (int j = 1; j < WIDTH; j++) {
                if (numbers[j] != 0) {
                    return true;
                }
            }
            return false;
        }

        /** E from at on, within depth F's: its numbers come to sums[depth]. */
        private boolean expression(int depth) {
            if (depth >= Syntax.DEPTH) {
                return fail(FAULT_SYNTAX, at);
            }
            if (!term(depth)) {
                return false;
            }
            long[] sum = sums[depth];
            System.arraycopy(products[depth], 0, sum, 0, WIDTH);
            for (int i = 0; i < syntax.tokenCount(); i++) {
                int sign = at;
                int kind = syntax.kind(sign);
                if (kind != Syntax.PLUS && kind != Syntax.MINUS) {
                    return true;
                }
                at++;
                if (!term(depth)) {
                    return false;
                }
                addTo(sum, products[depth], kind == Syntax.PLUS ? 1 : -1);
                if (isGreat(sum)) {
                    return fail(FAULT_GREAT, sign);
                }
            }
            return true;
        }

        /** T from at on: its numbers come to products[depth]. */
        private boolean term(int depth) {
            if (!factor(depth)) {
                return false;
            }
            long[] product = products[depth];
            System.arraycopy(factors[depth], 0, product, 0, WIDTH);
            for (int i = 0; i < syntax.tokenCount() && syntax.kind(at) == Syntax.STAR; i++) {
                int star = at;
                at++;
                if (!factor(depth)) {
                    return false;
                }
                if (hasCoefficient(product) && hasCoefficient(factors[depth])) {
                    return fail(FAULT_LINEAR, star);
                }
                multiply(product, factors[depth]);
                if (isGreat(product)) {
                    return fail(FAULT_GREAT, star);
                }
            }
            return true;
        }

        /** At most one of the two has coefficients, so cross products are not missed. */
        private static void multiply(long[] product, long[] factor) {
            long left = product[0];
            long right = factor[0];
            product[0] = left * right;
            for (int j = 1; j < WIDTH; j++) {
                product[j] = product[j] * right + left * factor[j];
            }
        }

        /** F from at on: its numbers come to factors[depth]. */
        private boolean factor(int depth) {
            if (depth >= Syntax.DEPTH) {
                return fail(FAULT_SYNTAX, at);
            }
            int kind = syntax.kind(at);
            int symbol = NONE;
            if (kind == Syntax.NAME) {
                symbol = find(syntax.value(at));
                if (!canBeFactor(symbol)) {
                    return fail(FAULT_NAME, at);
                }
            }
            looked++;
            if (looked > MOST_LOOKED) {
                return fail(FAULT_MUCH, at);
            }
            Arrays.fill(factors[depth], 0);
            switch (kind) {
                case Syntax.NAME:
                    return named(depth, symbol);
                case Syntax.MINUS:
                    return negated(depth);
                case Syntax.LEFT:
                    return inner(depth);
                case Syntax.SUM:
                    return summed(depth);
                default:
                    factors[depth][0] = number(at);
                    at++;
                    return true;
            }
        }

        private boolean canBeFactor(int symbol) {
            if (isSort(symbol, Syntax.NAME)) {
                return syntax.kind(at + 1) != Syntax.OPEN;
            }
            return isSort(symbol, Syntax.PAR) || isSort(symbol, Syntax.VAR);
        }

        private boolean negated(int depth) {
            at++;
            if (!factor(depth + 1)) {
                return false;
            }
            addTo(factors[depth], factors[depth + 1], -1);
            return true;
        }

        private boolean inner(int depth) {
            at++;
            if (!expression(depth + 1)) {
                return false;
            }
            addTo(factors[depth], sums[depth + 1], 1);
            at++;
            return true;
        }

        private boolean summed(int depth) {
            int first = at;
            int set = find(syntax.value(at + 3));
            int index = learn(at + 1, Syntax.NAME);
            if (index < 0) {
                return false;
            }
            if (!isSort(set, Syntax.SET)) {
                return fail(FAULT_NAME, at + 3);
            }
            int high = fact(set, HIGH);
            for (int value = fact(set, LOW); value <= high; value++) {
                setFact(index, LOW, value);
                at = first + 5;
                if (!expression(depth + 1)) {
                    return false;
                }
                addTo(factors[depth], sums[depth + 1], 1);
                if (isGreat(factors[depth])) {
                    return fail(FAULT_GREAT, first);
                }
            }
            forgetLast();
            at++;
            return true;
        }

        private boolean named(int depth, int symbol) {
            int name = at;
            at++;
            if (isSort(symbol, Syntax.NAME)) {
                factors[depth][0] = fact(symbol, LOW);
                return true;
            }
            int given = 0;
            int offset = 0;
            boolean inRange = true;
            boolean more = syntax.kind(at) == Syntax.OPEN;
            for (int what = FIRST; what <= SECOND && more; what++) {
                int item = item();
                if (faultKind != 0) {
                    return false;
                }
                given++;
                int set = fact(symbol, what);
                if (set >= 0) {
                    inRange = inRange && item >= fact(set, LOW) && item <= fact(set, HIGH);
                    offset = offset * setSize(set) + item - fact(set, LOW);
                }
                more = syntax.kind(at) == Syntax.COMMA;
                if (!more) {
                    at++;
                }
            }
            int wanted = fact(symbol, FIRST) < 0 ? 0 : fact(symbol, SECOND) < 0 ? 1 : 2;
            if (given != wanted) {
                return fail(FAULT_NAME, name);
            }
            if (!inRange) {
                return fail(FAULT_RANGE, name);
            }
            putNamed(factors[depth], symbol, fact(symbol, BASE) + offset);
            return true;
        }

        private void putNamed(long[] factor, int symbol, int where) {
            if (fact(symbol, SORT) == Syntax.PAR) {
                factor[0] = where >= 0 && where < values.length ? values[where] : 0;
            } else if (where >= 1 && where < WIDTH) {
                factor[where] = 1;
            }
        }

        /** The value of the I behind [ or , ; at comes to stand behind it. */
        private int item() {
            at++;
            if (syntax.kind(at) == Syntax.NUMBER) {
                at++;
                return (int) syntax.value(at - 1);
            }
            int symbol = find(syntax.value(at));
            if (symbol < 0 || fact(symbol, SORT) != Syntax.NAME) {
                fail(FAULT_NAME, at);
                return 0;
            }
            at++;
            int kind = syntax.kind(at);
            if (kind != Syntax.PLUS && kind != Syntax.MINUS) {
                return fact(symbol, LOW);
            }
            at += 2;
            int step = (int) syntax.value(at - 1);
            return fact(symbol, LOW) + (kind == Syntax.PLUS ? step : -step);
        }
    }

    /** The rows of a NODE in great numbers, and sums of them with factors; row 0 is the goal. */
    private static final class Rows {
        static final int MOST_DIGITS = 60;
        private static final int WIDTH = MOST_VARIABLES + 1;

        private final int[] cells = new int[(MOST_ROWS + 1) * WIDTH * Big.SLOT];
        private final int[] factors = new int[(MOST_ROWS + 1) * Big.SLOT];
        private final Big left = new Big();
        private final Big right = new Big();
        private final Big product = new Big();
        private final Big sum = new Big();
        private final Big quotient = new Big();
        private final Big help = new Big();
        private int variables;
        private int count;

        void take(Model model) {
            variables = model.variables;
            count = model.rows;
            for (int k = 0; k <= count; k++) {
                for (int j = 0; j <= variables; j++) {
                    Big.store(cells, at(k, j), model.number(k, j));
                }
            }
            clearFactors();
        }

        private static int at(int k, int j) {
            return (k * WIDTH + j) * Big.SLOT;
        }

        int count() {
            return count;
        }

        boolean isFull() {
            return count >= MOST_ROWS;
        }

        void keep(int rows) {
            count = Math.min(count, Math.max(rows, 0));
        }

        void number(int k, int j, Big into) {
            into.load(cells, at(k, j));
        }

        long lowBits(int k, int j) {
            if (k < 0 || k > count || j < 0 || j > variables) {
                return 0;
            }
            left.load(cells, at(k, j));
            return left.lowBits();
        }

        void clearFactors() {
            for (int k = 0; k <= MOST_ROWS; k++) {
                factors[k * Big.SLOT] = 0;
            }
        }

        void setFactor(int k, Big factor) {
            factor.save(factors, k * Big.SLOT);
        }

        /** The sum over the rows of factor times number j. */
        void combine(int j, Big into) {
            into.put(0);
            for (int k = 1; k <= count; k++) {
                // Most factors and many coefficients are 0, and a check may have thousands of sums.
                if (factors[k * Big.SLOT] != 0 && cells[at(k, j)] != 0) {
                    left.load(factors, k * Big.SLOT);
                    right.load(cells, at(k, j));
                    product.product(left, right);
                    into.add(product, 1);
                }
            }
        }

        /** Adds the factors' sum over q, rounded down; false when a number has too many digits. */
        boolean addCut(Big q) {
            if (isFull()) {
                return false;
            }
            for (int j = 0; j <= variables; j++) {
                combine(j, sum);
                sum.divide(q, quotient, help);
                if (quotient.digitCount() > MOST_DIGITS) {
                    return false;
                }
                quotient.save(cells, at(count + 1, j));
            }
            count++;
            return true;
        }

        /** Adds x at most v, or the row of x at least v + 1. */
        void addLimit(int variable, Big v, boolean above) {
            if (isFull() || variable < 1 || variable > variables) {
                return;
            }
            count++;
            for (int j = 1; j <= variables; j++) {
                Big.store(cells, at(count, j), j != variable ? 0 : above ? -1 : 1);
            }
            sum.copy(v);
            if (above) {
                help.put(1);
                sum.add(help, 1);
                sum.turn();
            }
            sum.save(cells, at(count, 0));
        }
    }

    /** Basic variables told by the others, in whole numbers over one denominator. */
    private static final class Dictionary {
        static final int NO_STEP = 0;
        static final int STEP = 1;
        static final int STUCK = 2;
        static final int GOAL_W = -1;
        static final int GOAL_Z = 0;
        private static final int DENOMINATOR = -2;
        private static final int MOST_PLACES = MOST_VARIABLES + 1;
        private static final int WIDTH = (MOST_PLACES + 1) * Big.SLOT;
        private static final int MOST_LIMBS = 6;
        /** Behind a kept dictionary's cells and NUMBERS: the row that it broke at, its rows, its places. */
        private static final int KEPT_TAIL = 3;
        /** One dictionary of each number of rows below the most, as each NODE has one row more. */
        private static final int MOST_KEPT = MOST_ROWS * (MOST_ROWS - 1) / 2 * (WIDTH + 1)
            + MOST_ROWS * (3 * WIDTH + MOST_PLACES + KEPT_TAIL);

        private int[] cells = new int[(MOST_ROWS + 3) * WIDTH];
        private int[] other = new int[(MOST_ROWS + 3) * WIDTH];
        private final int[] basic = new int[MOST_ROWS + 1];
        private final int[] free = new int[MOST_PLACES + 1];
        /** The dictionaries of the NODES whose second child waits, one behind the other. */
        private final int[] kept = new int[MOST_KEPT];
        private final Big lead = new Big();
        private final Big denominator = new Big();
        private final Big x = new Big();
        private final Big y = new Big();
        private final Big left = new Big();
        private final Big right = new Big();
        private final Big quotient = new Big();
        private final Big help = new Big();
        private int variables;
        private int rows;
        private int places;
        private boolean hasHelper;
        private int row;
        private int column;
        private int keptEnd;

        private static int at(int i, int j) {
            return (i + 2) * WIDTH + j * Big.SLOT;
        }

        void start(Model model) {
            variables = model.variables;
            rows = model.rows;
            places = variables;
            hasHelper = false;
            keptEnd = 0;
            Big.store(cells, at(DENOMINATOR, 0), 1);
            for (int i = 0; i <= rows; i++) {
                basic[i] = variables + i;
                for (int j = 0; j <= places; j++) {
                    long number = model.number(i, j);
                    Big.store(cells, at(i, j), i == GOAL_Z && j > 0 ? -number : number);
                }
            }
            for (int j = 1; j <= places; j++) {
                free[j] = j;
            }
            if (needsHelper()) {
                addHelper();
            }
        }

        private boolean needsHelper() {
            for (int i = 1; i <= rows; i++) {
                if (sign(i, 0) < 0) {
                    return true;
                }
            }
            return false;
        }

        private void addHelper() {
            hasHelper = true;
            places++;
            free[places] = 0;
            for (int j = 0; j < places; j++) {
                Big.store(cells, at(GOAL_W, j), 0);
            }
            Big.store(cells, at(GOAL_W, places), 1);
            Big.store(cells, at(GOAL_Z, places), 0);
            for (int i = 1; i <= rows; i++) {
                Big.store(cells, at(i, places), -1);
            }
        }

        boolean hasHelper() {
            return hasHelper;
        }

        int rowCount() {
            return rows;
        }

        int sign(int i, int j) {
            return Integer.signum(cells[at(i, j)]);
        }

        int numberAt(int i) {
            if (i >= 1 && i <= rows) {
                return basic[i];
            }
            return i <= -1 && i >= -places ? free[-i] : NONE;
        }

        void number(int i, int j, Big into) {
            into.load(cells, at(i, j));
        }

        void denominator(Big into) {
            into.load(cells, at(DENOMINATOR, 0));
        }

        /** Writes T(i, j), or D; false if there is none. */
        boolean write(int i, int j, Text text) {
            boolean there = i == DENOMINATOR ? j == 0
                : i >= (hasHelper ? GOAL_W : GOAL_Z) && i <= rows && j >= 0 && j <= places;
            if (!there) {
                return false;
            }
            x.load(cells, at(i, j));
            text.clear();
            text.number(x, true);
            return true;
        }

        private int rowOf(int number) {
            for (int i = 1; i <= rows; i++) {
                if (basic[i] == number) {
                    return i;
                }
            }
            return NONE;
        }

        private int placeOf(int number) {
            for (int j = 1; j <= places; j++) {
                if (free[j] == number) {
                    return j;
                }
            }
            return NONE;
        }

        /** What row or goal i has of the variable: its T, or D if it is the row's own, else 0. */
        void multiplier(int i, int number, Big into) {
            int j = placeOf(number);
            if (j > 0) {
                into.load(cells, at(i, j));
            } else if (i >= 1 && basic[i] == number) {
                denominator(into);
            } else {
                into.put(0);
            }
        }

        /** The variable's value in the POINT, times D. */
        void pointNumber(int variable, Big into) {
            int i = rowOf(variable);
            if (i > 0) {
                into.load(cells, at(i, 0));
            } else {
                into.put(0);
            }
        }

        /** How the variable goes along the RAY that was found last. */
        void rayNumber(int variable, Big into) {
            int i = rowOf(variable);
            if (i > 0) {
                into.load(cells, at(i, column));
                into.turn();
            } else if (free[column] == variable) {
                denominator(into);
            } else {
                into.put(0);
            }
        }

        /** The place of the WHOLE variable with the least NUMBER that isn't whole; 0 without. */
        int brokenRow(Model model) {
            denominator(denominator);
            for (int k = 1; k <= variables; k++) {
                int i = model.isWhole(k) ? rowOf(k) : NONE;
                if (i > 0) {
                    x.load(cells, at(i, 0));
                    x.divide(denominator, quotient, help);
                    if (x.sign != 0) {
                        return i;
                    }
                }
            }
            return 0;
        }

        /** The value of row i, rounded down. */
        void floor(int i, Big into) {
            denominator(denominator);
            x.load(cells, at(i, 0));
            x.divide(denominator, into, help);
        }

        /** A number less the greatest multiple of D that isn't above it. */
        void remainder(Big number) {
            denominator(denominator);
            number.divide(denominator, quotient, help);
        }

        int stuckRow() {
            return row;
        }

        /** The helper's way in: at the row with the least bound. */
        int chooseFirst() {
            row = 1;
            for (int i = 2; i <= rows; i++) {
                if (small(at(i, 0)) < small(at(row, 0))) {
                    row = i;
                }
            }
            column = placeOf(0);
            return STEP;
        }

        boolean helperIsBasic() {
            return rowOf(0) > 0;
        }

        /** The helper's way out, when it is BASIC at 0. */
        int chooseHelperOut() {
            row = rowOf(0);
            column = 0;
            for (int j = 1; j <= places; j++) {
                if (sign(row, j) != 0 && (column == 0 || free[j] < free[column])) {
                    column = j;
                }
            }
            return column > 0 ? STEP : STUCK;
        }

        void dropHelper() {
            int gone = placeOf(0);
            hasHelper = false;
            if (gone < 1) {
                return;
            }
            for (int i = 0; i <= rows; i++) {
                x.load(cells, at(i, places));
                x.save(cells, at(i, gone));
            }
            free[gone] = free[places];
            places--;
        }

        int chooseUp(int goal) {
            column = 0;
            for (int j = 1; j <= places; j++) {
                if (sign(goal, j) < 0 && (column == 0 || free[j] < free[column])) {
                    column = j;
                }
            }
            if (column == 0) {
                return NO_STEP;
            }
            row = 0;
            for (int i = 1; i <= rows; i++) {
                if (sign(i, column) > 0 && (row == 0 || leavesAhead(i))) {
                    row = i;
                }
            }
            return row > 0 ? STEP : STUCK;
        }

        private boolean leavesAhead(int i) {
            int order = compareProducts(at(i, 0), at(row, column), at(row, 0), at(i, column));
            return order < 0 || order == 0 && basic[i] < basic[row];
        }

        int chooseDown() {
            row = 0;
            for (int i = 1; i <= rows; i++) {
                if (sign(i, 0) < 0 && (row == 0 || basic[i] < basic[row])) {
                    row = i;
                }
            }
            if (row == 0) {
                return NO_STEP;
            }
            column = 0;
            for (int j = 1; j <= places; j++) {
                if (sign(row, j) < 0 && (column == 0 || entersAhead(j))) {
                    column = j;
                }
            }
            return column > 0 ? STEP : STUCK;
        }

        private boolean entersAhead(int j) {
            // Both lower numbers are below 0, so the products compare the other way round.
            int order = compareProducts(at(GOAL_Z, column), at(row, j), at(GOAL_Z, j), at(row, column));
            return order < 0 || order == 0 && free[j] < free[column];
        }

        private boolean isSmall(int at) {
            return cells[at] >= -1 && cells[at] <= 1;
        }

        private long small(int at) {
            return (long) cells[at] * cells[at + 1];
        }

        private int compareProducts(int a, int b, int c, int d) {
            if (isSmall(a) && isSmall(b) && isSmall(c) && isSmall(d)) {
                return Long.compare(small(a) * small(b), small(c) * small(d));
            }
            x.load(cells, a);
            y.load(cells, b);
            left.product(x, y);
            x.load(cells, c);
            y.load(cells, d);
            right.product(x, y);
            return left.compareWith(right);
        }

        /** PIVOTS where the last choice was; false, and nothing is done, if it is TOO BIG. */
        boolean pivot() {
            if (row < 1 || column < 1 || sign(row, column) == 0) {
                return false;
            }
            int turn = sign(row, column);
            lead.load(cells, at(row, column));
            denominator(denominator);
            for (int i = hasHelper ? GOAL_W : GOAL_Z; i <= rows; i++) {
                if (i != row && !pivotRow(i, turn)) {
                    return false;
                }
            }
            for (int j = 0; j <= places; j++) {
                Big.move(cells, other, at(row, j), turn);
            }
            denominator.sign = turn;
            denominator.save(other, at(row, column));
            lead.sign = 1;
            lead.save(other, at(DENOMINATOR, 0));
            int[] before = cells;
            cells = other;
            other = before;
            int number = basic[row];
            basic[row] = free[column];
            free[column] = number;
            return true;
        }

        /** Row or goal i, but not the pivot's own; numbers of one limb are worked as longs. */
        private boolean pivotRow(int i, int turn) {
            int own = at(i, 0);
            int leadRow = at(row, 0);
            int beside = column * Big.SLOT;
            long by = small(at(DENOMINATOR, 0));
            long pivot = small(leadRow + beside);
            long times = small(own + beside);
            boolean isSmallPivot = by > 0 && isSmall(at(DENOMINATOR, 0)) && isSmall(leadRow + beside)
                && isSmall(own + beside);
            for (int j = 0; j <= places; j++) {
                int cell = own + j * Big.SLOT;
                int above = leadRow + j * Big.SLOT;
                if (j == column) {
                    Big.move(cells, other, cell, -turn);
                } else if (isSmallPivot && isSmall(cell) && isSmall(above)) {
                    long number = small(cell) * pivot - times * small(above);
                    Big.store(other, cell, turn * (number / by));
                } else if (!pivotGreat(cell, own + beside, above, turn)) {
                    return false;
                }
            }
            return true;
        }

        private boolean pivotGreat(int cell, int beside, int above, int turn) {
            x.load(cells, cell);
            left.product(x, lead);
            x.load(cells, beside);
            y.load(cells, above);
            right.product(x, y);
            left.add(right, -1);
            left.divide(denominator, quotient, help);
            if (quotient.count > MOST_LIMBS) {
                return false;
            }
            quotient.sign *= turn;
            quotient.save(other, cell);
            return true;
        }

        /** Adds the CUT of row r. */
        void addCut(int r) {
            if (rows >= MOST_ROWS) {
                return;
            }
            for (int j = 0; j <= places; j++) {
                y.load(cells, at(r, j));
                remainder(y);
                y.turn();
                y.save(cells, at(rows + 1, j));
            }
            addRow();
        }

        /** Adds the row of a BRANCH at row r: at most its value rounded down, or at least one more. */
        void addLimit(int r, boolean above) {
            if (rows >= MOST_ROWS) {
                return;
            }
            y.load(cells, at(r, 0));
            remainder(y);
            if (above) {
                y.add(denominator, -1);
            } else {
                y.turn();
            }
            y.save(cells, at(rows + 1, 0));
            for (int j = 1; j <= places; j++) {
                y.load(cells, at(r, j));
                if (!above) {
                    y.turn();
                }
                y.save(cells, at(rows + 1, j));
            }
            addRow();
        }

        private void addRow() {
            rows++;
            basic[rows] = variables + rows;
        }

        boolean hasKept() {
            return keptEnd > 0;
        }

        /** Keeps all that is there, and the row that it broke at, behind what was kept before. */
        void keep(int brokenAt) {
            int used = at(rows + 1, 0);
            int end = keptEnd + used + rows + places + KEPT_TAIL;
            if (end > kept.length) {
                return;
            }
            System.arraycopy(cells, 0, kept, keptEnd, used);
            System.arraycopy(basic, 1, kept, keptEnd + used, rows);
            System.arraycopy(free, 1, kept, keptEnd + used + rows, places);
            kept[end - 3] = brokenAt;
            kept[end - 2] = rows;
            kept[end - 1] = places;
            keptEnd = end;
        }

        /** Brings back what was kept last; answers the row that it broke at. */
        int restore() {
            if (keptEnd < KEPT_TAIL) {
                return 0;
            }
            int brokenAt = kept[keptEnd - 3];
            int keptRows = kept[keptEnd - 2];
            int keptPlaces = kept[keptEnd - 1];
            int used = at(keptRows + 1, 0);
            int begin = keptEnd - KEPT_TAIL - keptPlaces - keptRows - used;
            if (begin < 0) {
                return 0;
            }
            System.arraycopy(kept, begin, cells, 0, used);
            System.arraycopy(kept, begin + used, basic, 1, keptRows);
            System.arraycopy(kept, begin + used + keptRows, free, 1, keptPlaces);
            rows = keptRows;
            places = keptPlaces;
            keptEnd = begin;
            return brokenAt;
        }
    }

    /** Writes proofs and fractions. */
    private static final class Prover {
        private static final int MOST_STEPS = 1000;
        private static final int WIDTH = MOST_VARIABLES + 2;
        private static final int DENOMINATOR = MOST_VARIABLES + 1;
        /** More than a VALUE or a word with two POINTS can have. */
        private static final int HEAD_BYTES = 1500;

        /** What stands ahead of the TREES. */
        private final Text head = new Text(HEAD_BYTES);
        private final Text trees = new Text(TAPE_BYTES);
        /** A POINT: its goal's number, those of the variables, and what all are over. */
        private final int[] point = new int[WIDTH * Big.SLOT];
        private final Big upper = new Big();
        private final Big lower = new Big();
        private final Big divisor = new Big();
        private final Big first = new Big();
        private final Big second = new Big();
        private final Big quotient = new Big();
        private final Big help = new Big();

        void clear() {
            head.clear();
            trees.clear();
        }

        boolean isTreeOver() {
            return trees.isOver();
        }

        boolean isMade() {
            return head.length() > 0;
        }

        boolean isOver() {
            return head.isOver() || proofLength() > TAPE_BYTES;
        }

        int proofLength() {
            return head.length() + (trees.length() > 0 ? 1 + trees.length() : 0);
        }

        int proofByte(int k) {
            if (k < head.length()) {
                return head.byteAt(k);
            }
            int behind = k - head.length() - 1;
            return behind < 0 && trees.length() > 0 ? BLANK : trees.byteAt(behind);
        }

        void takePoint(Dictionary dictionary, int variables) {
            dictionary.number(Dictionary.GOAL_Z, 0, first);
            first.save(point, 0);
            for (int j = 1; j <= variables; j++) {
                dictionary.pointNumber(j, first);
                first.save(point, j * Big.SLOT);
            }
            dictionary.denominator(first);
            first.save(point, DENOMINATOR * Big.SLOT);
        }

        /** The kept POINT's goal number (j 0) or that of a variable. */
        void pointNumber(int j, Big into) {
            into.load(point, j * Big.SLOT);
        }

        void pointDenominator(Big into) {
            into.load(point, DENOMINATOR * Big.SLOT);
        }

        /** Writes the LEAF of a row or goal: bound of z, else farkas. */
        void writeLeaf(Dictionary dictionary, int variables, int source) {
            trees.word(source == Dictionary.GOAL_Z ? "bound" : "farkas");
            dictionary.denominator(first);
            trees.number(first, true);
            for (int k = 1; k <= dictionary.rowCount(); k++) {
                dictionary.multiplier(source, variables + k, first);
                writePair(k, first);
            }
            trees.word(";");
        }

        /** Writes the CUT of row r, and leaves its multipliers with the rows. */
        void writeCut(Dictionary dictionary, int variables, int r, Rows rows) {
            trees.word("cut");
            dictionary.denominator(first);
            trees.number(first, true);
            rows.clearFactors();
            for (int k = 1; k <= dictionary.rowCount(); k++) {
                dictionary.multiplier(r, variables + k, first);
                dictionary.remainder(first);
                rows.setFactor(k, first);
                writePair(k, first);
            }
            trees.word(";");
        }

        private void writePair(int k, Big number) {
            if (number.sign != 0) {
                trees.count(k);
                trees.word(":");
                trees.number(number, true);
            }
        }

        void writeBranch(int variable, Big v) {
            trees.word("branch");
            trees.count(variable);
            trees.number(v, true);
        }

        /** The greatest number that divides both, in one of the two; none of them is below 0. */
        private Big common(Big a, Big b) {
            Big high = a;
            Big low = b;
            for (int i = 0; i < MOST_STEPS && low.sign != 0; i++) {
                high.divide(low, quotient, help);
                Big rest = high;
                high = low;
                low = rest;
            }
            return high;
        }

        /** Makes upper / lower the fraction top / bottom, as small as can be. */
        private void reduce(Big top, Big bottom, boolean turned) {
            upper.copy(top);
            if (turned) {
                upper.turn();
            }
            lower.copy(bottom);
            first.copy(top);
            first.sign = Math.abs(first.sign);
            second.copy(bottom);
            divisor.copy(common(first, second));
            upper.divide(divisor, quotient, help);
            upper.copy(quotient);
            lower.divide(divisor, quotient, help);
            lower.copy(quotient);
        }

        void writeFraction(Big top, Big bottom, boolean turned, Text text) {
            reduce(top, bottom, turned);
            text.clear();
            text.number(upper, true);
            first.put(1);
            if (lower.compareWith(first) != 0) {
                text.put('/');
                text.number(lower, false);
            }
        }

        /** The kept POINT over the least number that goes. */
        private void writePoint(int variables) {
            pointDenominator(divisor);
            for (int j = 1; j <= variables; j++) {
                first.copy(divisor);
                pointNumber(j, second);
                divisor.copy(common(first, second));
            }
            head.word("at");
            for (int j = 1; j <= variables; j++) {
                pointNumber(j, first);
                first.divide(divisor, quotient, help);
                head.number(quotient, true);
            }
            head.word("/");
            pointDenominator(first);
            first.divide(divisor, quotient, help);
            head.number(quotient, true);
        }

        void proveOptimal(Model model) {
            head.clear();
            head.word("optimal");
            pointNumber(0, upper);
            pointDenominator(lower);
            reduce(upper, lower, !model.max);
            head.number(upper, true);
            head.word("/");
            head.number(lower, true);
            writePoint(model.variables);
        }

        void proveInfeasible() {
            head.clear();
            head.word("infeasible");
        }

        void proveUnbounded(Model model, Dictionary dictionary) {
            takePoint(dictionary, model.variables);
            head.clear();
            head.word("unbounded");
            writePoint(model.variables);
            head.word("along");
            for (int j = 1; j <= model.variables; j++) {
                dictionary.rayNumber(j, first);
                head.number(first, true);
            }
            head.word("/");
            head.word("1");
        }
    }

    /** THE WORK over the NODES of one model. */
    private static final class Search {
        private static final int GOING = 1;
        private static final int OPTIMAL = 2;
        private static final int INFEASIBLE = 3;
        private static final int UNBOUNDED = 4;
        private static final int TOO_BIG = 5;
        private static final int TOO_MUCH = 6;
        /** What is to be done next. */
        private static final int CHOOSE = 0;
        private static final int PIVOT = 1;
        private static final int JUDGE = 2;
        private static final int LEAF = 3;
        private static final int CUT = 4;
        private static final int BRANCH = 5;
        private static final int SECOND_CHILD = 6;
        private static final int MOST_NODES = 1000;
        private static final int MOST_TURNS = 1000000;

        private final Rows rows = new Rows();
        private final Dictionary dictionary = new Dictionary();
        private final Prover prover = new Prover();
        private final Big left = new Big();
        private final Big right = new Big();
        private final Big top = new Big();
        private final Big bottom = new Big();
        private Model model = new Model();
        private int allowed;
        private int status;
        private int pivots;
        private int nodes;
        private int bests;
        private int cuts;
        private int phase;
        private int next;
        /** The row or goal that a LEAF, CUT or BRANCH comes from. */
        private int source;

        void start(Model told, int cutsAllowed) {
            model = told;
            allowed = cutsAllowed;
            rows.take(told);
            dictionary.start(told);
            prover.clear();
            status = GOING;
            pivots = 0;
            nodes = 1;
            bests = 0;
            cuts = 0;
            phase = dictionary.hasHelper() ? 1 : 2;
            next = CHOOSE;
        }

        long rowNumber(int k, int j) {
            return rows.lowBits(k, j);
        }

        boolean isProved() {
            return status >= OPTIMAL && status <= UNBOUNDED;
        }

        int state(int what) {
            switch (what) {
                case 0:
                    return status;
                case 1:
                    return pivots;
                case 2:
                    return nodes;
                case 3:
                    return bests;
                case 4:
                    return cuts;
                case 5:
                    return rows.count();
                case 6:
                    return rows.count() - model.rows;
                case 7:
                    return phase;
                case 8:
                    return isProved() ? prover.proofLength() : 0;
                default:
                    return NONE;
            }
        }

        /** The VALUE (0) or a variable of the BEST, or the price of row -j; false without. */
        boolean writeFraction(int j, Text text) {
            if (j > model.variables || j < -rows.count()) {
                return false;
            }
            if (j < 0) {
                dictionary.multiplier(Dictionary.GOAL_Z, model.variables - j, left);
                dictionary.denominator(right);
                prover.writeFraction(left, right, false, text);
                return true;
            }
            if (bests == 0) {
                return false;
            }
            prover.pointNumber(j, left);
            prover.pointDenominator(right);
            prover.writeFraction(left, right, j == 0 && !model.max, text);
            return true;
        }

        /** Up to so many PIVOTS, and on to the next one or the end; answers how many were done. */
        int run(int most) {
            int done = 0;
            for (int i = 0; i < MOST_TURNS && status == GOING; i++) {
                switch (next) {
                    case PIVOT:
                        if (done >= most) {
                            return done;
                        }
                        if (dictionary.pivot()) {
                            done++;
                            pivots++;
                            next = CHOOSE;
                        } else {
                            status = TOO_BIG;
                        }
                        break;
                    case JUDGE:
                        judge();
                        break;
                    case LEAF:
                        leaf();
                        break;
                    case CUT:
                        cut();
                        break;
                    case BRANCH:
                        branch();
                        break;
                    case SECOND_CHILD:
                        beginSecondChild();
                        break;
                    default:
                        choose();
                        break;
                }
            }
            return done;
        }

        /** Writes the proof when the work has just ended with one. */
        void prove() {
            // Only a proof that is whole can be too long here: TREES alone are looked at as they are written.
            if (!isProved() || prover.isMade()) {
                return;
            }
            if (status == OPTIMAL) {
                prover.proveOptimal(model);
            } else if (status == INFEASIBLE) {
                prover.proveInfeasible();
            } else if (status == UNBOUNDED) {
                prover.proveUnbounded(model, dictionary);
            }
            if (prover.isOver()) {
                status = TOO_MUCH;
            }
        }

        /** Chooses the next PIVOT, or ends the phase or the NODE that has none. */
        private void choose() {
            int choice;
            switch (phase) {
                case 1:
                    choice = pivots == 0 ? dictionary.chooseFirst() : dictionary.chooseUp(Dictionary.GOAL_W);
                    break;
                case 2:
                    choice = dictionary.chooseUp(Dictionary.GOAL_Z);
                    break;
                default:
                    choice = dictionary.chooseDown();
                    break;
            }
            if (choice == Dictionary.STEP) {
                next = PIVOT;
            } else if (phase == 1) {
                endPhaseOne();
            } else if (choice == Dictionary.NO_STEP) {
                next = JUDGE;
            } else if (phase == 2) {
                status = UNBOUNDED;
            } else {
                source = dictionary.stuckRow();
                next = LEAF;
            }
        }

        private void endPhaseOne() {
            if (dictionary.sign(Dictionary.GOAL_W, 0) < 0) {
                source = Dictionary.GOAL_W;
                next = LEAF;
            } else if (dictionary.helperIsBasic() && dictionary.chooseHelperOut() == Dictionary.STEP) {
                next = PIVOT;
            } else {
                dictionary.dropHelper();
                phase = 2;
            }
        }

        /** What becomes of a NODE whose dictionary has its best POINT. */
        private void judge() {
            source = Dictionary.GOAL_Z;
            next = LEAF;
            if (bests > 0 && !isAboveBest()) {
                return;
            }
            int r = dictionary.brokenRow(model);
            if (r == 0) {
                bests++;
                prover.takePoint(dictionary, model.variables);
                return;
            }
            source = r;
            // All cuts stand at the beginning of a way, so those made are those of every way.
            next = model.isAllWhole() && cuts < allowed ? CUT : BRANCH;
        }

        private boolean isAboveBest() {
            dictionary.number(Dictionary.GOAL_Z, 0, top);
            dictionary.denominator(bottom);
            if (model.isGoalWhole()) {
                dictionary.floor(Dictionary.GOAL_Z, top);
                bottom.put(1);
            }
            prover.pointDenominator(right);
            left.product(top, right);
            prover.pointNumber(0, top);
            right.product(top, bottom);
            return left.compareWith(right) > 0;
        }

        private void leaf() {
            prover.writeLeaf(dictionary, model.variables, source);
            if (prover.isTreeOver()) {
                status = TOO_MUCH;
            } else if (dictionary.hasKept()) {
                next = SECOND_CHILD;
            } else {
                status = bests > 0 ? OPTIMAL : INFEASIBLE;
            }
        }

        /** Counts a child, if its NODE has room for its row; false if it is TOO MUCH. */
        private boolean countChild(boolean hasRoom) {
            if (prover.isTreeOver() || !hasRoom || nodes >= MOST_NODES) {
                status = TOO_MUCH;
                return false;
            }
            nodes++;
            phase = 3;
            next = CHOOSE;
            return true;
        }

        private void cut() {
            prover.writeCut(dictionary, model.variables, source, rows);
            if (!countChild(!rows.isFull())) {
                return;
            }
            cuts++;
            dictionary.denominator(bottom);
            rows.addCut(bottom);
            dictionary.addCut(source);
        }

        private void branch() {
            int variable = dictionary.numberAt(source);
            dictionary.floor(source, top);
            prover.writeBranch(variable, top);
            if (!countChild(!rows.isFull())) {
                return;
            }
            dictionary.keep(source);
            rows.addLimit(variable, top, false);
            dictionary.addLimit(source, false);
        }

        private void beginSecondChild() {
            // The first child had room for its row, so there is room for this one.
            if (!countChild(true)) {
                return;
            }
            source = dictionary.restore();
            rows.keep(dictionary.rowCount());
            dictionary.floor(source, top);
            rows.addLimit(dictionary.numberAt(source), top, true);
            dictionary.addLimit(source, true);
        }
    }

    /** The tokens of a proof's text, and whether they make a PROOF. */
    private static final class ProofReader {
        static final int END = 0;
        static final int BAD = 1;
        static final int NUMBER = 2;
        static final int SLASH = 3;
        static final int COLON = 4;
        static final int SEMICOLON = 5;
        static final int WORD = 6;
        static final int OPTIMAL = 7;
        static final int INFEASIBLE = 8;
        static final int UNBOUNDED = 9;
        static final int AT = 10;
        static final int ALONG = 11;
        static final int BRANCH = 12;
        static final int CUT = 13;
        static final int BOUND = 14;
        static final int FARKAS = 15;
        private static final int KINDS = 16;
        private static final int MOST_DIGITS = 60;
        private static final int MOST_COUNT = 1000000;

        private Text text = new Text(0);
        /** Of each token its first byte's place times KINDS, and its kind. */
        private final int[] marks = new int[TAPE_BYTES + 1];
        private int tokens;
        private int at;

        /** Takes the tokens of a text, up to the first that is none; stands at the first. */
        void open(Text given) {
            text = given;
            tokens = 0;
            int length = text.length();
            int i = 0;
            for (int turn = 0; turn < TAPE_BYTES && i < length; turn++) {
                i = scanOne(i, length);
                if (tokens > 0 && marks[tokens - 1] % KINDS == BAD) {
                    i = length;
                }
            }
            mark(END, length);
            at = 0;
        }

        /** Stands at the first token again. */
        void rewind() {
            at = 0;
        }

        int kind() {
            return at < tokens ? marks[at] % KINDS : END;
        }

        int start() {
            return at < tokens ? marks[at] / KINDS : NONE;
        }

        void advance() {
            at++;
        }

        private void mark(int kind, int start) {
            if (tokens < marks.length) {
                marks[tokens] = start * KINDS + kind;
                tokens++;
            }
        }

        /** Takes the blank or the token at i; answers the place behind it, which is beyond i. */
        private int scanOne(int i, int length) {
            int value = text.byteAt(i);
            if (value == BLANK || value == NEW_LINE) {
                return i + 1;
            }
            if (Syntax.isLetter(value)) {
                return scanWord(i, length);
            }
            if (value == '-' || Syntax.isDigit(value)) {
                return scanNumber(i, length);
            }
            mark(value == '/' ? SLASH : value == ':' ? COLON : value == ';' ? SEMICOLON : BAD, i);
            return i + 1;
        }

        private int scanWord(int first, int length) {
            int behind = first;
            while (behind < length && Syntax.isLetter(text.byteAt(behind))) {
                behind++;
            }
            int kind = WORD;
            for (int k = OPTIMAL; k <= FARKAS; k++) {
                if (isWord(first, behind, word(k))) {
                    kind = k;
                }
            }
            mark(kind, first);
            return behind;
        }

        private static String word(int kind) {
            switch (kind) {
                case OPTIMAL:
                    return "optimal";
                case INFEASIBLE:
                    return "infeasible";
                case UNBOUNDED:
                    return "unbounded";
                case AT:
                    return "at";
                case ALONG:
                    return "along";
                case BRANCH:
                    return "branch";
                case CUT:
                    return "cut";
                case BOUND:
                    return "bound";
                default:
                    return "farkas";
            }
        }

        private boolean isWord(int first, int behind, String word) {
            if (word.length() != behind - first) {
                return false;
            }
            for (int i = 0; i < word.length(); i++) {
                if (text.byteAt(first + i) != word.charAt(i)) {
                    return false;
                }
            }
            return true;
        }

        private int scanNumber(int first, int length) {
            boolean below = text.byteAt(first) == '-';
            int digits = below ? first + 1 : first;
            int behind = behindDigits(digits, length);
            boolean bad = behind == digits || behind - digits > MOST_DIGITS
                || below && !hasMoreThanNoughts(digits, behind);
            mark(bad ? BAD : NUMBER, first);
            return Math.max(behind, first + 1);
        }

        private int behindDigits(int first, int length) {
            int behind = first;
            while (behind < length && Syntax.isDigit(text.byteAt(behind))) {
                behind++;
            }
            return behind;
        }

        private boolean hasMoreThanNoughts(int first, int behind) {
            for (int i = first; i < behind; i++) {
                if (text.byteAt(i) != '0') {
                    return true;
                }
            }
            return false;
        }

        /** The NUMBER that is there; goes on behind it. */
        void takeNumber(Big into) {
            int first = start();
            boolean below = text.byteAt(first) == '-';
            int digits = below ? first + 1 : first;
            into.read(text, digits, behindDigits(digits, text.length()));
            if (below) {
                into.turn();
            }
            at++;
        }

        /** The NUMBER that is there, if it is 0 .. 1,000,000, else NONE; goes on behind it. */
        int takeCount() {
            int first = start();
            int behind = behindDigits(first, text.length());
            int value = behind > first ? 0 : NONE;
            for (int i = first; i < behind && value >= 0; i++) {
                value = 10 * value + text.byteAt(i) - '0';
                value = value > MOST_COUNT ? NONE : value;
            }
            at++;
            return value;
        }

        private boolean pass(int kind) {
            if (kind() != kind) {
                return false;
            }
            at++;
            return true;
        }

        /** Passes a NUMBER that says over what, so it must be above 0. */
        private boolean passAbove() {
            if (kind() != NUMBER) {
                return false;
            }
            int first = start();
            int behind = behindDigits(first, text.length());
            if (!hasMoreThanNoughts(first, behind)) {
                return false;
            }
            at++;
            return true;
        }

        /** Whether all of it is one PROOF; if not, start() tells where that shows. */
        boolean isProof(int variables) {
            int head = kind();
            if (head != OPTIMAL && head != INFEASIBLE && head != UNBOUNDED) {
                return false;
            }
            at++;
            if (head == OPTIMAL && !(pass(NUMBER) && pass(SLASH) && passAbove())) {
                return false;
            }
            if (head != INFEASIBLE && !(pass(AT) && passPoint(variables))) {
                return false;
            }
            if (head == UNBOUNDED) {
                return pass(ALONG) && passPoint(variables) && kind() == END;
            }
            return passTree() && kind() == END;
        }

        private boolean passPoint(int variables) {
            for (int j = 1; j <= variables; j++) {
                if (!pass(NUMBER)) {
                    return false;
                }
            }
            return pass(SLASH) && passAbove();
        }

        /** Passes one TREE, without recursion: due are the TREES that must still come. */
        private boolean passTree() {
            int due = 1;
            for (int i = 0; i <= TAPE_BYTES && due > 0; i++) {
                int word = kind();
                if (word < BRANCH || word > FARKAS) {
                    return false;
                }
                at++;
                if (!(word == BRANCH ? pass(NUMBER) && pass(NUMBER) : passAbove() && passPairs())) {
                    return false;
                }
                due += word == BRANCH ? 1 : word == CUT ? 0 : -1;
            }
            return due == 0;
        }

        private boolean passPairs() {
            for (int i = 0; i <= TAPE_BYTES && pass(NUMBER); i++) {
                if (!pass(COLON) || !pass(NUMBER)) {
                    return false;
                }
            }
            return pass(SEMICOLON);
        }
    }

    /** Holds a proof against a model, knowing nothing of dictionaries. */
    private static final class Checker {
        private static final int FAULT_TEXT = 1;
        private static final int FAULT_POINT = 2;
        private static final int FAULT_VALUE = 3;
        private static final int FAULT_TREE = 4;
        private static final int FAULT_ALONG = 5;
        private static final int FAULT_MUCH = 6;
        private static final int MOST_TREES = 3000;

        private final ProofReader reader = new ProofReader();
        private final Rows rows = new Rows();
        /** A POINT: what all are over, then the variables' numbers. */
        private final int[] point = new int[(MOST_VARIABLES + 1) * Big.SLOT];
        private final Big valueTop = new Big();
        private final Big valueBottom = new Big();
        private final Big q = new Big();
        private final Big sum = new Big();
        private final Big part = new Big();
        private final Big number = new Big();
        private final Big product = new Big();
        private final Big help = new Big();
        /** Of the BRANCHES whose second TREE waits: rows ahead, variable, v. */
        private final int[] waitingRows = new int[MOST_ROWS + 1];
        private final int[] waitingVariable = new int[MOST_ROWS + 1];
        private final int[] waitingBound = new int[(MOST_ROWS + 1) * Big.SLOT];
        private int waiting;
        private Model model = new Model();
        private int faultKind;
        private int faultAt;

        int faultPlace() {
            return faultAt;
        }

        int hold(Text text, Model against) {
            model = against;
            faultKind = 0;
            faultAt = NONE;
            reader.open(text);
            if (!reader.isProof(model.variables)) {
                fail(FAULT_TEXT, reader.start());
                return faultKind;
            }
            rows.take(model);
            waiting = 0;
            reader.rewind();
            int head = reader.kind();
            if (head == ProofReader.UNBOUNDED) {
                holdUnbounded();
                return faultKind;
            }
            if (head == ProofReader.OPTIMAL) {
                holdOptimal();
            } else {
                reader.advance();
            }
            if (faultKind == 0) {
                holdTrees(head == ProofReader.OPTIMAL);
            }
            return faultKind;
        }

        private boolean fail(int kind, int where) {
            faultKind = kind;
            faultAt = where;
            return false;
        }

        /** The VALUE and the POINT of an optimal; comes to stand at its TREE. */
        private boolean holdOptimal() {
            int head = reader.start();
            reader.advance();
            reader.takeNumber(valueTop);
            reader.advance();
            reader.takeNumber(valueBottom);
            if (!model.max) {
                valueTop.turn();
            }
            int pointPlace = reader.start();
            takePoint();
            if (!isValue()) {
                return fail(FAULT_VALUE, head);
            }
            return isPoint(true) || fail(FAULT_POINT, pointPlace);
        }

        private boolean holdUnbounded() {
            reader.advance();
            int pointPlace = reader.start();
            takePoint();
            if (!isPoint(false)) {
                return fail(FAULT_POINT, pointPlace);
            }
            int alongPlace = reader.start();
            takePoint();
            return isAlong() || fail(FAULT_ALONG, alongPlace);
        }

        /** The POINT behind the word that is there. */
        private void takePoint() {
            reader.advance();
            for (int j = 1; j <= model.variables; j++) {
                reader.takeNumber(number);
                number.save(point, j * Big.SLOT);
            }
            reader.advance();
            reader.takeNumber(number);
            number.save(point, 0);
        }

        /** The sum of row k's coefficients times the POINT's numbers. */
        private void sumAt(int k) {
            sum.put(0);
            for (int j = 1; j <= model.variables; j++) {
                number.load(point, j * Big.SLOT);
                rows.number(k, j, part);
                product.product(number, part);
                sum.add(product, 1);
            }
        }

        /** Row k's number without variable times what the POINT is over. */
        private void scaleBound(int k) {
            number.load(point, 0);
            rows.number(k, 0, part);
            product.product(number, part);
        }

        private boolean isValue() {
            sumAt(0);
            scaleBound(0);
            sum.add(product, 1);
            product.product(sum, valueBottom);
            number.load(point, 0);
            part.product(number, valueTop);
            return product.compareWith(part) == 0;
        }

        private boolean isPoint(boolean mustBeWhole) {
            q.load(point, 0);
            for (int j = 1; j <= model.variables; j++) {
                number.load(point, j * Big.SLOT);
                if (number.sign < 0) {
                    return false;
                }
                if (mustBeWhole && model.isWhole(j)) {
                    number.divide(q, part, help);
                    if (number.sign != 0) {
                        return false;
                    }
                }
            }
            for (int k = 1; k <= model.rows; k++) {
                sumAt(k);
                scaleBound(k);
                if (sum.compareWith(product) > 0) {
                    return false;
                }
            }
            return true;
        }

        private boolean isAlong() {
            for (int j = 1; j <= model.variables; j++) {
                number.load(point, j * Big.SLOT);
                if (number.sign < 0) {
                    return false;
                }
            }
            for (int k = 1; k <= model.rows; k++) {
                sumAt(k);
                if (sum.sign > 0) {
                    return false;
                }
            }
            sumAt(0);
            return sum.sign > 0;
        }

        private boolean holdTrees(boolean hasValue) {
            for (int trees = 1; trees <= MOST_TREES; trees++) {
                int word = reader.kind();
                int where = reader.start();
                reader.advance();
                int bad = word == ProofReader.BRANCH ? branch() : pairTree(word, hasValue);
                if (bad != 0) {
                    return fail(bad, where);
                }
                if (word == ProofReader.BOUND || word == ProofReader.FARKAS) {
                    if (waiting == 0) {
                        return true;
                    }
                    beginSecondTree();
                }
            }
            return fail(FAULT_MUCH, reader.start());
        }

        /** The FAULT of a branch, 0 without; its first TREE has its row then. */
        private int branch() {
            int variable = reader.takeCount();
            reader.takeNumber(number);
            if (!model.isWhole(variable)) {
                return FAULT_TREE;
            }
            if (rows.isFull() || waiting >= MOST_ROWS) {
                return FAULT_MUCH;
            }
            waitingRows[waiting] = rows.count();
            waitingVariable[waiting] = variable;
            number.save(waitingBound, waiting * Big.SLOT);
            waiting++;
            rows.addLimit(variable, number, false);
            return 0;
        }

        private void beginSecondTree() {
            waiting--;
            rows.keep(waitingRows[waiting]);
            number.load(waitingBound, waiting * Big.SLOT);
            rows.addLimit(waitingVariable[waiting], number, true);
        }

        /** The FAULT of a cut, bound or farkas, 0 without. */
        private int pairTree(int word, boolean hasValue) {
            reader.takeNumber(q);
            if (!takePairs()) {
                return FAULT_TREE;
            }
            if (word == ProofReader.CUT) {
                if (!model.isAllWhole()) {
                    return FAULT_TREE;
                }
                return rows.addCut(q) ? 0 : FAULT_MUCH;
            }
            if (word == ProofReader.FARKAS) {
                return isFarkas() ? 0 : FAULT_TREE;
            }
            return hasValue && isBound() ? 0 : FAULT_TREE;
        }

        /** Leaves the PAIRS with the rows, as their factors; false if they can't be such. */
        private boolean takePairs() {
            rows.clearFactors();
            int last = 0;
            for (int i = 0; i <= TAPE_BYTES && reader.kind() == ProofReader.NUMBER; i++) {
                int row = reader.takeCount();
                reader.advance();
                reader.takeNumber(number);
                if (row <= last || row > rows.count() || number.sign < 0) {
                    return false;
                }
                rows.setFactor(row, number);
                last = row;
            }
            reader.advance();
            return true;
        }

        private boolean isFarkas() {
            for (int j = 1; j <= model.variables; j++) {
                rows.combine(j, sum);
                if (sum.sign < 0) {
                    return false;
                }
            }
            rows.combine(0, sum);
            return sum.sign < 0;
        }

        private boolean isBound() {
            for (int j = 1; j <= model.variables; j++) {
                rows.combine(j, sum);
                rows.number(0, j, part);
                product.product(q, part);
                if (sum.compareWith(product) < 0) {
                    return false;
                }
            }
            rows.combine(0, sum);
            rows.number(0, 0, part);
            product.product(q, part);
            sum.add(product, 1);
            if (model.isGoalWhole()) {
                sum.divide(q, part, help);
                product.product(part, valueBottom);
                return product.compareWith(valueTop) <= 0;
            }
            product.product(sum, valueBottom);
            part.product(valueTop, q);
            return product.compareWith(part) <= 0;
        }
    }
}
