/**
 * Numerals and numbers: texts are read as whole numbers of 64 bits or as the nearest real, and numbers are written by
 * forms, always exactly. Every row is made once, with the object, and used again by each call.
 */
public final class NumeralTexts {
    public static final int BAD = -1;
    public static final int FULL = -3;

    private static final int WHOLE = 1;
    private static final int REAL = 2;
    private static final int PLUS_INFINITY = 3;
    private static final int MINUS_INFINITY = 4;
    private static final int NO_NUMBER = 5;

    private static final int WRONG_BASE = -100;
    private static final int PLAIN_DIGITS = 14;
    private static final int MOST_SHORTEST = 16;
    private static final long MOST_FACTOR = 1L << 53;
    private static final int MOST_POWER = 1200;
    private static final int MOST_FLAGS = 31;
    private static final int MOST_WIDTH = 99;
    private static final int MOST_PRECISION = 99;

    private final Tape tape;
    private final Numeral numeral;
    private final Decimal room;
    private final Decimal exact;
    private final Size size;
    private final Size again;
    private final Page page;
    private final Writer writer;

    private int valueKind;
    private long valueNumber;
    private int valueExponent;

    public NumeralTexts() {
        tape = new Tape();
        numeral = new Numeral(tape);
        room = new Decimal();
        exact = new Decimal();
        size = new Size();
        again = new Size();
        page = new Page();
        writer = new Writer(page, exact);
        valueKind = WHOLE;
        valueNumber = 0;
        valueExponent = 0;
    }

    public int type(long bytes, int n) {
        if (n < 1 || n > 8) {
            return BAD;
        }
        if (!tape.hasRoomFor(n)) {
            return FULL;
        }
        for (int i = n - 1; i >= 0; i--) {
            tape.add((int) (bytes >>> (8 * i)) & 0xFF);
        }
        return tape.length();
    }

    public int read() {
        int wrong = numeral.scan();
        if (wrong == Numeral.RIGHT) {
            takeNumeral();
        }
        tape.clear();
        return wrong == Numeral.RIGHT ? valueKind : WRONG_BASE - wrong;
    }

    public void whole(long v) {
        setValue(WHOLE, v, 0);
    }

    public int real(long m, int e) {
        if (m < -MOST_FACTOR || m > MOST_FACTOR || e < -MOST_POWER || e > MOST_POWER) {
            return BAD;
        }
        size.setNearest(m < 0 ? -m : m, false, e);
        takeSize(m < 0);
        return valueKind;
    }

    public boolean special(int kind) {
        if (kind < PLUS_INFINITY || kind > NO_NUMBER) {
            return false;
        }
        setValue(kind, 0, 0);
        return true;
    }

    public int kind() {
        return valueKind;
    }

    public long number() {
        return valueNumber;
    }

    public int exponent() {
        return valueExponent;
    }

    public int plain() {
        if (valueKind == WHOLE) {
            writer.begin('d', 0, 0, Writer.NO_PRECISION);
            writer.writeWhole(valueNumber);
            return page.length();
        }
        writer.begin('g', 0, 0, PLAIN_DIGITS);
        writeAsReal();
        if (valueKind == REAL && !page.holds('.') && !page.holds('e')) {
            page.putText(".0");
        }
        return page.length();
    }

    public int form(char letter, int flags, int width, int precision) {
        boolean wholes = isLetterOfWholes(letter);
        if (!wholes && !isLetterOfReals(letter) || wholes && !isWhole64()) {
            return BAD;
        }
        if (flags < 0 || flags > MOST_FLAGS || width < 0 || width > MOST_WIDTH) {
            return BAD;
        }
        if (precision < Writer.NO_PRECISION || precision > MOST_PRECISION) {
            return BAD;
        }
        writer.begin(letter, flags, width, precision);
        if (wholes) {
            writer.writeWhole(toWhole64());
        } else {
            writeAsReal();
        }
        return page.length();
    }

    public int shortest() {
        if (valueKind != WHOLE && valueKind != REAL) {
            return BAD;
        }
        sizeOfValue();
        int precision = leastPrecision();
        writer.begin('e', 0, 0, precision);
        writer.writeSize(valueNumber < 0, size);
        return precision + 1;
    }

    public int written(int i) {
        return page.at(i);
    }

    private void setValue(int newKind, long newNumber, int newExponent) {
        valueKind = newKind;
        valueNumber = newNumber;
        valueExponent = newExponent;
    }

    private void takeNumeral() {
        boolean negative = numeral.isNegative();
        if (numeral.findWhole()) {
            long v = numeral.foundWhole();
            setValue(WHOLE, negative ? -v : v, 0);
            return;
        }
        numeral.findSize(room, size);
        takeSize(negative);
    }

    private void takeSize(boolean negative) {
        if (size.isInfinite()) {
            setValue(negative ? MINUS_INFINITY : PLUS_INFINITY, 0, 0);
            return;
        }
        long m = size.factor();
        setValue(REAL, negative ? -m : m, size.power());
    }

    /** A whole number becomes the nearest real here; -2^63 has its size in the 64 bits taken without a sign. */
    private void sizeOfValue() {
        long m = valueNumber < 0 ? -valueNumber : valueNumber;
        size.setNearest(m, false, valueExponent);
    }

    private void writeAsReal() {
        if (valueKind == NO_NUMBER) {
            writer.writeWord("nan", "NAN", false);
        } else if (valueKind == PLUS_INFINITY || valueKind == MINUS_INFINITY) {
            writer.writeWord("inf", "INF", valueKind == MINUS_INFINITY);
        } else {
            sizeOfValue();
            writer.writeSize(valueNumber < 0, size);
        }
    }

    /** The digits that form e would write are read back, one digit more each time; 17 are always enough. */
    private int leastPrecision() {
        exact.setProduct(size.factor(), size.power());
        int top = exact.topPlace();
        for (int precision = 0; precision < MOST_SHORTEST; precision++) {
            room.setRounded(exact, top - precision);
            room.findNearest(again);
            if (again.isSame(size)) {
                return precision;
            }
        }
        return MOST_SHORTEST;
    }

    private boolean isWhole64() {
        if (valueKind == WHOLE) {
            return true;
        }
        if (valueKind != REAL || valueExponent < 0) {
            return false;
        }
        long m = valueNumber < 0 ? -valueNumber : valueNumber;
        return bitsOf(m) + valueExponent <= 63 || valueNumber == -1 && valueExponent == 63;
    }

    private long toWhole64() {
        return valueKind == REAL ? valueNumber << valueExponent : valueNumber;
    }

    private static boolean isLetterOfWholes(char letter) {
        return letter == 'd' || letter == 'x' || letter == 'X' || letter == 'o';
    }

    private static boolean isLetterOfReals(char letter) {
        int small = letter >= 'A' && letter <= 'Z' ? letter - 'A' + 'a' : letter;
        return small == 'a' || small >= 'e' && small <= 'g';
    }

    private static int bitsOf(long m) {
        return 64 - Long.numberOfLeadingZeros(m);
    }

    /** The bytes that have been typed and not yet read. */
    private static final class Tape {
        private static final int MOST = 1200;
        private static final int NO_BYTE = -1;

        private final byte[] row = new byte[MOST];
        private int length = 0;

        int length() {
            return length;
        }

        boolean hasRoomFor(int n) {
            return n <= MOST - length;
        }

        void add(int b) {
            if (length >= 0 && length < row.length) {
                row[length] = (byte) b;
                length++;
            }
        }

        int at(int i) {
            return i < 0 || i >= length || i >= row.length ? NO_BYTE : row[i] & 0xFF;
        }

        void clear() {
            length = 0;
        }
    }

    /** The parts of the text of a number that stands on the tape. */
    private static final class Numeral {
        static final int RIGHT = -1;

        private static final long MOST_TENS = 922337203685477580L;
        private static final int MOST_LAST = 7;
        /** A power this great outweighs all the digits that the tape can hold, and stays far from where int wraps. */
        private static final int MOST_POWER = 100000;
        /** 10 to this power is above every real. */
        private static final int HIGHEST_PLACE = 309;
        /** So many digits with 16 are more bits than a real has, and still fit into a long. */
        private static final int ENOUGH_OF_16 = 15;

        private final Tape tape;
        private int next;
        private boolean negative;
        private boolean sixteen;
        private boolean hasPoint;
        private boolean hasPower;
        private int from;
        private int to;
        private int before;
        private int digits;
        private int power;
        private long found;

        Numeral(Tape tape) {
            this.tape = tape;
        }

        boolean isNegative() {
            return negative;
        }

        long foundWhole() {
            return found;
        }

        /** RIGHT, or the place where the tape is wrong. */
        int scan() {
            next = 0;
            passBlanks();
            negative = passSign();
            passPrefix();
            passDigits();
            if (digits == 0 || !passPower()) {
                return next;
            }
            passBlanks();
            return next < tape.length() ? next : RIGHT;
        }

        private void passBlanks() {
            int end = tape.length();
            while (next < end && isBlank(tape.at(next))) {
                next++;
            }
        }

        private boolean passSign() {
            int b = tape.at(next);
            if (b == '+' || b == '-') {
                next++;
            }
            return b == '-';
        }

        private void passPrefix() {
            int b = tape.at(next + 1);
            sixteen = tape.at(next) == '0' && (b == 'x' || b == 'X');
            if (sixteen) {
                next += 2;
            }
        }

        private void passDigits() {
            int end = tape.length();
            from = next;
            before = 0;
            digits = 0;
            hasPoint = false;
            while (next < end) {
                int b = tape.at(next);
                if (digitOf(b, sixteen) >= 0) {
                    digits++;
                    before += hasPoint ? 0 : 1;
                } else if (b == '.' && !hasPoint) {
                    hasPoint = true;
                } else {
                    break;
                }
                next++;
            }
            to = next;
        }

        /** False when a power begins here and has no digit. */
        private boolean passPower() {
            int b = tape.at(next);
            power = 0;
            hasPower = sixteen ? b == 'p' || b == 'P' : b == 'e' || b == 'E';
            if (!hasPower) {
                return true;
            }
            next++;
            boolean below = passSign();
            int start = next;
            int end = tape.length();
            while (next < end && digitOf(tape.at(next), false) >= 0) {
                power = Math.min(MOST_POWER, power * 10 + digitOf(tape.at(next), false));
                next++;
            }
            power = below ? -power : power;
            return next > start;
        }

        /** Whether the numeral is a whole number; foundWhole then tells its size. */
        boolean findWhole() {
            found = 0;
            if (hasPoint || hasPower) {
                return false;
            }
            for (int i = from; i < to; i++) {
                int digit = digitOf(tape.at(i), sixteen);
                if (sixteen) {
                    found = (found << 4) + digit;
                } else if (found > MOST_TENS || found == MOST_TENS && digit > MOST_LAST) {
                    return false;
                } else {
                    found = found * 10 + digit;
                }
            }
            return true;
        }

        /** The nearest real of a numeral that is no whole number. */
        void findSize(Decimal room, Size size) {
            if (sixteen) {
                findSizeOf16(size);
            } else if (putDigits(room)) {
                room.findNearest(size);
            } else {
                size.setInfinite();
            }
        }

        /** False when the number is above every real. Places too low for the room are only in numbers nearest to 0. */
        private boolean putDigits(Decimal room) {
            int place = before - 1 + power;
            room.clear();
            for (int i = from; i < to; i++) {
                int digit = digitOf(tape.at(i), false);
                if (digit > 0 && place > HIGHEST_PLACE) {
                    return false;
                }
                if (digit > 0) {
                    room.addAt(place, digit);
                }
                if (digit >= 0) {
                    place--;
                }
            }
            return true;
        }

        private void findSizeOf16(Size size) {
            long m = 0;
            int held = 0;
            int left = 0;
            boolean more = false;
            for (int i = from; i < to; i++) {
                int digit = digitOf(tape.at(i), true);
                if (digit < 0) {
                    continue;
                }
                if (held < ENOUGH_OF_16) {
                    m = (m << 4) + digit;
                    held += m > 0 ? 1 : 0;
                } else {
                    left++;
                    more = more || digit > 0;
                }
            }
            size.setNearest(m, more, power + 4 * (left - (digits - before)));
        }

        private static boolean isBlank(int b) {
            return b >= 9 && b <= 13 || b == 32;
        }

        private static int digitOf(int b, boolean sixteen) {
            if (b >= '0' && b <= '9') {
                return b - '0';
            }
            if (sixteen && b >= 'a' && b <= 'f') {
                return b - 'a' + 10;
            }
            if (sixteen && b >= 'A' && b <= 'F') {
                return b - 'A' + 10;
            }
            return -1;
        }
    }

    /** The size of a real: an odd factor times a power of 2, or 0 with power 0, or infinite. */
    private static final class Size {
        private static final int FACTOR_BITS = 53;
        private static final int LEAST_POWER = -1074;
        private static final int MOST_BITS = 1024;

        private long factor = 0;
        private int power = 0;
        private boolean infinite = false;

        long factor() {
            return factor;
        }

        int power() {
            return power;
        }

        boolean isInfinite() {
            return infinite;
        }

        boolean isSame(Size other) {
            return infinite == other.infinite && factor == other.factor && power == other.power;
        }

        void setInfinite() {
            factor = 0;
            power = 0;
            infinite = true;
        }

        /**
         * The nearest of m * 2^e, m taken without a sign. With more, a part of the last unit of m has been left out:
         * then m has more bits than a real, or e is below the least power, so that this unit is never kept.
         */
        void setNearest(long m, boolean more, int e) {
            int drop = Math.max(bitsOf(m) - FACTOR_BITS, LEAST_POWER - e);
            if (drop <= 0) {
                setReduced(m, e);
            } else if (drop > 63) {
                setReduced(0, 0);
            } else {
                long kept = m >>> drop;
                long rest = m & ((1L << drop) - 1);
                long half = 1L << (drop - 1);
                boolean up = rest > half || rest == half && (more || (kept & 1) == 1);
                setReduced(up ? kept + 1 : kept, e + drop);
            }
        }

        private void setReduced(long m, int e) {
            int zeros = m == 0 ? 0 : Long.numberOfTrailingZeros(m);
            factor = m >>> zeros;
            power = m == 0 ? 0 : e + zeros;
            infinite = false;
            if (bitsOf(factor) + power > MOST_BITS) {
                setInfinite();
            }
        }
    }

    /**
     * A decimal number that is not below 0, in limbs of nine digits, the highest first: with them, times and divided
     * by powers of 2, every real is a finite row of digits, and every numeral a finite row of bits and a rest.
     */
    private static final class Decimal {
        private static final int LIMB = 9;
        private static final int BASE = 1000000000;
        private static final int[] TENS = {1, 10, 100, 1000, 10000, 100000, 1000000, 10000000, 100000000};
        /** 36 limbs before the point hold 10^310; behind it, 1,200 typed digits have room that begin at 10^-340 or above. */
        private static final int UNITS = 35;
        private static final int LIMBS = UNITS + 1 + 172;
        /** A multiple of nine that keeps places from being negative where they are divided: / rounds towards 0. */
        private static final int SHIFT = LIMB * LIMBS;
        /** With 29 bits at once a carry stays below one limb. */
        private static final int STEP = 29;
        private static final int MOST_STEPS = 64;
        /** One bit more than a real has: that and the rest tell how to round. */
        private static final int ENOUGH_BITS = 54;
        private static final int MOST_SCALE = 1075;

        private final int[] row = new int[LIMBS];
        /** No limb before first or behind last is other than 0, and these two are not 0 either, but in the number 0. */
        private int first = UNITS;
        private int last = UNITS;

        private int limb(int i) {
            return i < 0 || i >= row.length ? 0 : row[i];
        }

        private void setLimb(int i, int limb) {
            if (i < 0 || i >= row.length) {
                return;
            }
            row[i] = limb;
            if (i < first) {
                first = i;
            }
            if (i > last) {
                last = i;
            }
        }

        private static int limbOf(int place) {
            return UNITS + LIMBS - (place + SHIFT) / LIMB;
        }

        private static int unitOf(int place) {
            int i = (place + SHIFT) % LIMB;
            return i < 0 || i >= TENS.length ? 1 : TENS[i];
        }

        private void trim() {
            while (last > first && limb(last) == 0) {
                last--;
            }
            while (first < last && limb(first) == 0) {
                first++;
            }
        }

        void clear() {
            for (int i = first; i <= last; i++) {
                setLimb(i, 0);
            }
            first = UNITS;
            last = UNITS;
        }

        /** The power of 10 of the first digit; 0 for 0. */
        int topPlace() {
            int place = LIMB * (UNITS - first);
            int top = limb(first);
            if (top == 0) {
                return 0;
            }
            for (int i = 1; i < TENS.length && TENS[i] <= top; i++) {
                place++;
            }
            return place;
        }

        int digit(int place) {
            int unit = unitOf(place);
            return unit <= 0 ? 0 : limb(limbOf(place)) / unit % 10;
        }

        void addAt(int place, int digit) {
            int i = limbOf(place);
            int sum = limb(i) + digit * unitOf(place);
            for (int n = 0; n < LIMBS && sum >= BASE; n++) {
                setLimb(i, sum - BASE);
                i--;
                sum = limb(i) + 1;
            }
            setLimb(i, sum);
            trim();
        }

        private boolean hasBelow(int place) {
            int unit = unitOf(place);
            int i = limbOf(place);
            return last > i && limb(last) != 0 || unit > 0 && limb(i) % unit != 0;
        }

        private void cutBelow(int place) {
            int unit = unitOf(place);
            int i = limbOf(place);
            for (int k = Math.max(i + 1, first); k <= last; k++) {
                setLimb(k, 0);
            }
            if (unit > 0 && i >= first && i <= last) {
                setLimb(i, limb(i) - limb(i) % unit);
            }
            trim();
        }

        private boolean roundsUpAt(int place) {
            int behind = digit(place - 1);
            if (behind != 5) {
                return behind > 5;
            }
            return hasBelow(place - 1) || digit(place) % 2 == 1;
        }

        /** The nearest number without digits below place, of two the one whose last digit is even. */
        void roundAt(int place) {
            boolean up = roundsUpAt(place);
            cutBelow(place);
            if (up) {
                addAt(place, 1);
            }
        }

        void setRounded(Decimal other, int place) {
            clear();
            for (int i = other.first; i <= limbOf(place); i++) {
                setLimb(i, other.limb(i));
            }
            cutBelow(place);
            if (other.roundsUpAt(place)) {
                addAt(place, 1);
            }
        }

        /** m * 2^e, with m below 2^54. */
        void setProduct(long m, int e) {
            clear();
            setLimb(UNITS, (int) (m % BASE));
            setLimb(UNITS - 1, (int) (m / BASE));
            trim();
            int bits = e < 0 ? -e : e;
            for (int n = 0; n < MOST_STEPS && bits > 0; n++) {
                int step = Math.min(STEP, bits);
                if (e < 0) {
                    divide(step);
                } else {
                    multiply(step);
                }
                bits -= step;
            }
        }

        private void multiply(int bits) {
            long carry = 0;
            for (int i = last; i >= first && i >= 0 && i < row.length; i--) {
                long sum = ((long) row[i] << bits) + carry;
                carry = sum / BASE;
                row[i] = (int) (sum - carry * BASE);
            }
            if (carry > 0) {
                setLimb(first - 1, (int) carry);
            }
            trim();
        }

        private void divide(int bits) {
            long mask = (1L << bits) - 1;
            long rest = 0;
            int i = first;
            while (i >= 0 && i < row.length && (i <= last || rest > 0)) {
                long sum = rest * BASE + row[i];
                row[i] = (int) (sum >>> bits);
                rest = sum & mask;
                i++;
            }
            last = Math.max(last, i - 1);
            trim();
        }

        private long units() {
            return (long) limb(UNITS - 1) * BASE + limb(UNITS);
        }

        /** The nearest real; the row is used up by that. */
        void findNearest(Size size) {
            int power = 0;
            boolean more = false;
            for (int n = 0; n < MOST_STEPS && first < UNITS - 1; n++) {
                int step = first < UNITS - 2 ? STEP : bitsOf(limb(first));
                divide(step);
                more = more || hasBelow(0);
                cutBelow(0);
                power += step;
            }
            for (int n = 0; n < MOST_STEPS && power > -MOST_SCALE && bitsOf(units()) < ENOUGH_BITS; n++) {
                int step = Math.min(STEP, Math.min(ENOUGH_BITS - bitsOf(units()), MOST_SCALE + power));
                multiply(step);
                power -= step;
            }
            size.setNearest(units(), more || hasBelow(0), power);
        }
    }

    /** What was written. */
    private static final class Page {
        /** 309 digits, a point, 102 digits and a sign are fewer. */
        private static final int MOST = 420;

        private final byte[] row = new byte[MOST];
        private int length = 0;

        int length() {
            return length;
        }

        int at(int i) {
            return i < 0 || i >= length || i >= row.length ? BAD : row[i];
        }

        void clear() {
            length = 0;
        }

        void put(int b) {
            if (length >= 0 && length < row.length) {
                row[length] = (byte) b;
                length++;
            }
        }

        void putText(String text) {
            for (int i = 0; i < text.length(); i++) {
                put(text.charAt(i));
            }
        }

        void putMany(int b, int count) {
            for (int i = 0; i < count; i++) {
                put(b);
            }
        }

        boolean holds(int b) {
            for (int i = 0; i < length; i++) {
                if (at(i) == b) {
                    return true;
                }
            }
            return false;
        }

        void insert(int place, int b, int count) {
            int end = length;
            putMany(b, count);
            for (int i = length - 1; i >= place && i >= 0 && i < row.length; i--) {
                int source = i - count;
                row[i] = (byte) (source >= place && source < end ? at(source) : b);
            }
        }
    }

    /** Writes numbers on the page by one form. */
    private static final class Writer {
        static final int NO_PRECISION = -1;

        private static final int FLAG_LEFT = 1;
        private static final int FLAG_PLUS = 2;
        private static final int FLAG_BLANK = 4;
        private static final int FLAG_SHARP = 8;
        private static final int FLAG_ZERO = 16;

        private static final int USUAL_PRECISION = 6;
        private static final int LOWEST_POINT_FORM = -4;
        /** A whole number has the most digits with 8. */
        private static final int MOST_DIGITS = 22;
        private static final int DIGITS_OF_16 = 13;
        private static final int LEAST_POWER_OF_1 = -1022;
        private static final String SMALL = "0123456789abcdef";
        private static final String GREAT = "0123456789ABCDEF";

        private final Page page;
        private final Decimal exact;
        private final byte[] digits = new byte[MOST_DIGITS];
        private int count = 0;
        private char letter = 'd';
        private int flags = 0;
        private int width = 0;
        private int precision = NO_PRECISION;

        Writer(Page page, Decimal exact) {
            this.page = page;
            this.exact = exact;
        }

        void begin(char newLetter, int newFlags, int newWidth, int newPrecision) {
            letter = newLetter;
            flags = newFlags;
            width = newWidth;
            precision = newPrecision;
        }

        private boolean has(int flag) {
            return (flags & flag) != 0;
        }

        private boolean isGreat() {
            return letter < 'a';
        }

        private int smallLetter() {
            return letter | 32;
        }

        private int precisionOr(int usual) {
            return precision == NO_PRECISION ? usual : precision;
        }

        void writeWord(String small, String great, boolean negative) {
            page.clear();
            putSign(negative);
            page.putText(isGreat() ? great : small);
            fill(0, false);
        }

        void writeWhole(long v) {
            page.clear();
            if (letter == 'd') {
                putSign(v < 0);
            }
            findDigits(v);
            int zeros = Math.max(0, precisionOr(1) - count);
            if (has(FLAG_SHARP)) {
                putMarkOfBase(v, zeros);
            }
            int start = page.length();
            page.putMany('0', zeros);
            putFoundDigits();
            fill(start, precision == NO_PRECISION);
        }

        /** size is a real's, not infinite. */
        void writeSize(boolean negative, Size size) {
            boolean with16 = smallLetter() == 'a';
            page.clear();
            putSign(negative);
            if (with16) {
                page.putText(isGreat() ? "0X" : "0x");
            } else {
                exact.setProduct(size.factor(), size.power());
            }
            int start = page.length();
            int behind = precisionOr(USUAL_PRECISION);
            if (with16) {
                putWith16(size.factor(), size.power());
            } else if (smallLetter() == 'f') {
                exact.roundAt(-behind);
                putPointForm(behind);
            } else if (smallLetter() == 'e') {
                exact.roundAt(exact.topPlace() - behind);
                putPowerForm(behind);
            } else {
                putShorterForm(behind > 0 ? behind - 1 : 0);
            }
            fill(start, true);
        }

        /** Form g: once rounded for form e, the number is also what form f would round to. */
        private void putShorterForm(int behind) {
            exact.roundAt(exact.topPlace() - behind);
            int top = exact.topPlace();
            if (top >= LOWEST_POINT_FORM && top <= behind) {
                putPointForm(needed(-1, behind - top));
            } else {
                putPowerForm(needed(top - 1, behind));
            }
        }

        /** How many of the digits from place on are left when the 0s at the end go (with # they stay). */
        private int needed(int place, int behind) {
            int left = behind;
            while (left > 0 && !has(FLAG_SHARP) && exact.digit(place - left + 1) == 0) {
                left--;
            }
            return left;
        }

        private void putPointForm(int behind) {
            for (int place = Math.max(0, exact.topPlace()); place >= 0; place--) {
                page.put('0' + exact.digit(place));
            }
            putBehind(-1, behind);
        }

        private void putPowerForm(int behind) {
            int top = exact.topPlace();
            page.put('0' + exact.digit(top));
            putBehind(top - 1, behind);
            page.put(isGreat() ? 'E' : 'e');
            putPower(top, 2);
        }

        private void putBehind(int place, int behind) {
            putPoint(behind);
            for (int i = 0; i < behind; i++) {
                page.put('0' + exact.digit(place - i));
            }
        }

        private void putPoint(int behind) {
            if (behind > 0 || has(FLAG_SHARP)) {
                page.put('.');
            }
        }

        private void putPower(int power, int least) {
            page.put(power < 0 ? '-' : '+');
            findTens(power);
            page.putMany('0', least - count);
            putFoundDigits();
        }

        private void putWith16(long factor, int power) {
            int top = bitsOf(factor) - 1 + power;
            int shown = factor == 0 ? 0 : Math.max(top, LEAST_POWER_OF_1);
            long bits = factor << (power - shown + 4 * DIGITS_OF_16);
            int behind = precision == NO_PRECISION ? neededOf16(bits) : precision;
            bits = roundedOf16(bits, behind);
            page.put('0' + (int) (bits >>> (4 * DIGITS_OF_16)));
            putPoint(behind);
            for (int i = 1; i <= behind; i++) {
                page.put(i > DIGITS_OF_16 ? '0' : digitOf16(bits >>> (4 * (DIGITS_OF_16 - i))));
            }
            page.put(isGreat() ? 'P' : 'p');
            putPower(shown, 1);
        }

        private static int neededOf16(long bits) {
            int behind = DIGITS_OF_16;
            while (behind > 0 && (bits >>> (4 * (DIGITS_OF_16 - behind)) & 15) == 0) {
                behind--;
            }
            return behind;
        }

        private static long roundedOf16(long bits, int behind) {
            if (behind >= DIGITS_OF_16) {
                return bits;
            }
            int drop = 4 * (DIGITS_OF_16 - behind);
            long kept = bits >>> drop;
            long rest = bits - (kept << drop);
            long half = 1L << (drop - 1);
            boolean up = rest > half || rest == half && (kept & 1) == 1;
            return (up ? kept + 1 : kept) << drop;
        }

        private int digitOf16(long bits) {
            int digit = (int) (bits & 15);
            return isGreat() ? GREAT.charAt(digit) : SMALL.charAt(digit);
        }

        private void putSign(boolean negative) {
            if (negative) {
                page.put('-');
            } else if (has(FLAG_PLUS)) {
                page.put('+');
            } else if (has(FLAG_BLANK)) {
                page.put(' ');
            }
        }

        private void putMarkOfBase(long v, int zeros) {
            if (smallLetter() == 'x' && v != 0) {
                page.put('0');
                page.put(letter);
            } else if (letter == 'o' && zeros == 0) {
                page.put('0');
            }
        }

        private void findDigits(long v) {
            if (letter == 'd') {
                findTens(v);
                return;
            }
            int bits = letter == 'o' ? 3 : 4;
            long rest = v;
            count = 0;
            while (rest != 0 && count < digits.length) {
                long digit = rest & ((1 << bits) - 1);
                digits[count] = (byte) digitOf16(digit);
                count++;
                rest = rest >>> bits;
            }
        }

        /** The remainders are taken with their sign, since -2^63 has no opposite. */
        private void findTens(long v) {
            long rest = v;
            count = 0;
            while (rest != 0 && count < digits.length) {
                int digit = (int) (rest % 10);
                digits[count] = (byte) ('0' + (digit < 0 ? -digit : digit));
                count++;
                rest = rest / 10;
            }
        }

        private void putFoundDigits() {
            for (int i = Math.min(count, digits.length) - 1; i >= 0; i--) {
                page.put(digits[i]);
            }
        }

        /** start is where 0s would be put in. */
        private void fill(int start, boolean zerosFit) {
            int lack = width - page.length();
            if (lack <= 0) {
                return;
            }
            if (has(FLAG_LEFT)) {
                page.putMany(' ', lack);
            } else if (has(FLAG_ZERO) && zerosFit) {
                page.insert(start, '0', lack);
            } else {
                page.insert(0, ' ', lack);
            }
        }
    }
}
