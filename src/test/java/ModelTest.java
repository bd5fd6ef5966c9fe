import java.math.BigDecimal;
import java.math.BigInteger;
import java.math.MathContext;
import java.math.RoundingMode;
import java.util.HashMap;
import java.util.Map;
import java.util.Random;
import java.util.regex.Matcher;
import java.util.regex.Pattern;

/**
 * Runs of mixed calls, always the same ones, on an object and on a model of the whole document side by side: each
 * answer is compared, so that also what a call must leave alone (the value, the tape, what was written) is looked at.
 */
public final class ModelTest {
    private static final int RUNS = 4000;
    private static final int MOST_CALLS = 512;
    private static final Random RANDOM = new Random(9);

    private static int wrong = 0;
    private static long answers = 0;

    private static NumeralTexts object;
    private static Model model;
    private static int calls;
    private static StringBuilder story;

    public static void main(String[] args) {
        for (int run = 0; run < RUNS; run++) {
            object = new NumeralTexts();
            model = new Model();
            calls = 0;
            story = new StringBuilder();
            while (calls < MOST_CALLS) {
                anyStep();
            }
        }
        System.out.println(answers + " answers, " + wrong + " not as the model's");
        if (wrong != 0) {
            System.exit(1);
        }
    }

    private static boolean mayCall() {
        return calls < MOST_CALLS;
    }

    private static void due(String call, long got, long want) {
        calls++;
        answers++;
        story.append(call).append(' ');
        if (got != want) {
            wrong++;
            if (wrong < 10) {
                System.out.println(call + " answered " + got + ", due is " + want + ", after: " + story);
            }
        }
    }

    // ---- the calls

    private static void anyStep() {
        int step = RANDOM.nextInt(20);
        if (step < 6) {
            typeText(RANDOM.nextInt(60) == 0 ? Texts.asLongAsTheTape() : Texts.any());
            read();
            askValue();
        } else if (step < 8) {
            whole(Numbers.anyWhole());
        } else if (step < 11) {
            real(Numbers.anyFactor(), Numbers.anyPower());
            askValue();
        } else if (step < 12) {
            special(RANDOM.nextInt(4) == 0 ? RANDOM.nextInt() : RANDOM.nextInt(8) - 1);
            askValue();
        } else if (step < 13) {
            plain();
        } else if (step < 14) {
            shortest();
        } else if (step < 15 && RANDOM.nextBoolean()) {
            typeText(Texts.powerOf10());
            read();
            shortest();
        } else if (step < 15) {
            typeWrongly();
        } else {
            form();
        }
    }

    private static void type(long bytes, int n) {
        if (mayCall()) {
            due("type(" + bytes + ", " + n + ")", object.type(bytes, n), model.type(bytes, n));
        }
    }

    /** Above the lowest n bytes stands something, which must not come onto the tape. */
    private static void typeText(String text) {
        int at = 0;
        while (at < text.length()) {
            int n = Math.min(text.length() - at, text.length() > 40 ? 8 : 1 + RANDOM.nextInt(8));
            long bytes = RANDOM.nextLong();
            for (int i = 0; i < n; i++) {
                bytes = bytes << 8 | text.charAt(at + i);
            }
            type(bytes, n);
            at += n;
        }
    }

    private static void typeWrongly() {
        int[] lengths = {0, 9, -1, 16, 8, 1, Integer.MIN_VALUE, Integer.MAX_VALUE};
        type(RANDOM.nextLong(), lengths[RANDOM.nextInt(lengths.length)]);
    }

    private static void read() {
        if (mayCall() && RANDOM.nextInt(30) > 0) {
            due("read()", object.read(), model.read());
        }
    }

    private static void whole(long v) {
        object.whole(v);
        model.whole(v);
        due("whole(" + v + ")", 0, 0);
        askValue();
    }

    private static void real(long m, int e) {
        due("real(" + m + ", " + e + ")", object.real(m, e), model.real(m, e));
    }

    private static void special(int kind) {
        due("special(" + kind + ")", object.special(kind) ? 1 : 0, model.special(kind) ? 1 : 0);
    }

    private static void askValue() {
        if (mayCall()) {
            due("kind()", object.kind(), model.kind);
        }
        if (mayCall()) {
            due("number()", object.number(), model.number());
        }
        if (mayCall()) {
            due("exponent()", object.exponent(), model.exponent());
        }
    }

    private static void plain() {
        due("plain()", object.plain(), model.plain());
        askPage();
    }

    private static void shortest() {
        if (mayCall()) {
            due("shortest()", object.shortest(), model.shortest());
            askPage();
        }
    }

    private static int oddly(int usual, int... odd) {
        return RANDOM.nextInt(40) == 0 ? odd[RANDOM.nextInt(odd.length)] : usual;
    }

    private static void form() {
        String letters = "dxXoeEfFgGaA";
        char letter = (char) oddly(letters.charAt(RANDOM.nextInt(letters.length())), 'b', 'D', 'O', 'h', 0, 0x161, 65535);
        int flags = oddly(RANDOM.nextInt(32), -1, 32, Integer.MIN_VALUE, Integer.MAX_VALUE);
        int width = oddly(RANDOM.nextInt(3) > 0 ? RANDOM.nextInt(30) : RANDOM.nextInt(100), -1, 100, Integer.MAX_VALUE);
        int usual = RANDOM.nextInt(4) == 0 ? RANDOM.nextInt(101) - 1 : RANDOM.nextInt(21) - 1;
        int precision = oddly(usual, -2, 100, Integer.MIN_VALUE);
        String call = "form(" + (int) letter + ", " + flags + ", " + width + ", " + precision + ")";
        due(call, object.form(letter, flags, width, precision), model.form(letter, flags, width, precision));
        askPage();
    }

    private static void askPage() {
        for (int i = -1; i <= model.page.length() && mayCall(); i++) {
            int want = i >= 0 && i < model.page.length() ? model.page.charAt(i) : NumeralTexts.BAD;
            due("written(" + i + ")", object.written(i), want);
        }
    }

    // ---- what the calls are given

    private static final class Numbers {
        static long anyWhole() {
            switch (RANDOM.nextInt(5)) {
                case 0: return RANDOM.nextLong();
                case 1: return RANDOM.nextInt(2001) - 1000;
                case 2: return (1L << RANDOM.nextInt(64)) + RANDOM.nextInt(5) - 2;
                case 3: return Long.MIN_VALUE + RANDOM.nextInt(2000);
                default: return Model.TEN.pow(RANDOM.nextInt(19)).longValueExact() * (RANDOM.nextBoolean() ? 1 : -1);
            }
        }

        static long anyFactor() {
            long most = 1L << 53;
            switch (RANDOM.nextInt(5)) {
                case 0: return RANDOM.nextLong() >> 10;
                case 1: return RANDOM.nextInt(201) - 100;
                case 2: return (most + RANDOM.nextInt(5) - 3) * (RANDOM.nextBoolean() ? 1 : -1);
                case 3: return BigInteger.valueOf(5).pow(RANDOM.nextInt(23)).longValueExact();
                default: return RANDOM.nextLong() >> 10 + RANDOM.nextInt(54);
            }
        }

        static int anyPower() {
            switch (RANDOM.nextInt(6)) {
                case 0: return RANDOM.nextInt(2405) - 1202;
                case 1: return RANDOM.nextInt(60) - 1130;
                case 2: return RANDOM.nextInt(124) + 900;
                case 3: return (RANDOM.nextBoolean() ? 1 : -1) * (1200 + RANDOM.nextInt(2));
                default: return RANDOM.nextInt(121) - 60;
            }
        }
    }

    private static final class Texts {
        private static final String OF_16 = "0123456789abcdefABCDEF";

        static String any() {
            String blanks = "\t\n\u000b\f\r ";
            String before = String.valueOf(blanks.charAt(RANDOM.nextInt(6))).repeat(RANDOM.nextInt(3) == 0 ? RANDOM.nextInt(5) : 0);
            String behind = oneOf("", "", "", "", " ", "\t\n ", " 1", "x", "\0");
            String text = before + oneOf("", "", "+", "-", "-") + numeral() + behind;
            if (RANDOM.nextInt(20) == 0 && !text.isEmpty()) {
                int at = RANDOM.nextInt(text.length());
                text = text.substring(0, at) + (char) RANDOM.nextInt(256) + text.substring(at + 1);
            }
            return text;
        }

        /** The last bytes may find the tape full. */
        static String asLongAsTheTape() {
            String digit = oneOf("0", "9", "5");
            return oneOf("0x", "1.", "", ".", "0x.8") + digit.repeat(1190 + RANDOM.nextInt(12)) + oneOf("", "1", " ", "e9", "p2");
        }

        static String powerOf10() {
            return "1e" + (RANDOM.nextInt(636) - 325);
        }

        private static String oneOf(String... texts) {
            return texts[RANDOM.nextInt(texts.length)];
        }

        private static String digits(String from) {
            int[] lengths = {0, 1, 1, 2, 3, 8, 15, 16, 17, 18, 19, 20, 21, 40};
            int length = RANDOM.nextInt(40) == 0 ? RANDOM.nextInt(500) : lengths[RANDOM.nextInt(lengths.length)];
            StringBuilder text = new StringBuilder();
            for (int i = 0; i < length; i++) {
                text.append(from.charAt(RANDOM.nextInt(from.length())));
            }
            return text.toString();
        }

        private static String numeral() {
            switch (RANDOM.nextInt(8)) {
                case 0: return RANDOM.nextBoolean() ? between() : between16();
                case 1: case 2: return of16();
                case 3: return nearWhole().toString();
                case 4: return scribble();
                default: return of10();
            }
        }

        private static String of10() {
            String point = RANDOM.nextBoolean() ? "." + digits("0123456789") : "";
            String power = RANDOM.nextBoolean() ? oneOf("e", "E") + oneOf("", "+", "-") + power() : "";
            return digits(oneOf("0123456789", "09", "0")) + point + power;
        }

        private static String of16() {
            String point = RANDOM.nextBoolean() ? "." + digits(oneOf(OF_16, "08", "f")) : "";
            String power = RANDOM.nextBoolean() ? oneOf("p", "P") + oneOf("", "+", "-") + power() : "";
            return oneOf("0x", "0X") + digits(oneOf(OF_16, OF_16, "08", "fF", "0")) + point + power;
        }

        private static String power() {
            switch (RANDOM.nextInt(12)) {
                case 0: return "";
                case 1: return "99999999999999999999";
                case 2: return "000" + RANDOM.nextInt(400);
                case 3: return String.valueOf(960 + RANDOM.nextInt(200));
                case 4: return String.valueOf(290 + RANDOM.nextInt(60));
                default: return String.valueOf(RANDOM.nextInt(40));
            }
        }

        private static BigInteger nearWhole() {
            return BigInteger.ONE.shiftLeft(53 + RANDOM.nextInt(13)).add(BigInteger.valueOf(RANDOM.nextInt(5) - 2));
        }

        private static String scribble() {
            StringBuilder text = new StringBuilder();
            for (int i = RANDOM.nextInt(8); i > 0; i--) {
                text.append("0012xXeEpP..+- \tafAF/:@G`g".charAt(RANDOM.nextInt(26)));
            }
            return text.toString();
        }

        /** A number that two reals are equally near to, or barely more or less than that. */
        private static String between() {
            long m = (RANDOM.nextLong() >>> 10 + RANDOM.nextInt(54)) | 1;
            BigDecimal exact = Model.times2(BigDecimal.valueOf(m), Math.max(-1075, RANDOM.nextInt(2047) - 1075));
            exact = exact.signum() == 0 ? BigDecimal.ONE : exact.stripTrailingZeros();
            BigInteger unscaled = exact.unscaledValue().multiply(BigInteger.TEN).add(BigInteger.valueOf(RANDOM.nextInt(3) - 1));
            return unscaled + "e" + (-exact.scale() - 1);
        }

        private static String between16() {
            String digits = Long.toHexString((RANDOM.nextLong() >>> 10) | 1L << 53 | 1);
            String end = oneOf("", "0", "1", "0000000000", "00000000000000001");
            int point = RANDOM.nextInt(digits.length());
            return "0x" + digits.substring(0, point) + "." + digits.substring(point) + end + "p" + (RANDOM.nextInt(2200) - 1130);
        }
    }

    // ---- the model

    private static final class Model {
        static final BigDecimal TEN = BigDecimal.TEN;
        private static final BigDecimal TWO = BigDecimal.valueOf(2);
        private static final BigDecimal HALF = new BigDecimal("0.5");
        private static final Map<Integer, BigDecimal> POWERS_OF_2 = new HashMap<>();
        private static final BigDecimal TOO_GREAT = TWO.pow(1024).subtract(TWO.pow(970));
        private static final BigInteger TO_THE_64 = BigInteger.ONE.shiftLeft(64);
        private static final BigInteger TO_THE_63 = BigInteger.ONE.shiftLeft(63);

        /** Possessive, since no part can begin where the part before it could go on: so long texts are not tried twice. */
        private static final String BLANKS = "[\\t-\\r ]*+";
        private static final Pattern TEXT = Pattern.compile(BLANKS + "(?<sign>[+-]?+)(?:"
            + "0[xX](?<a16>[0-9a-fA-F]*+)(?<p16>\\.?+)(?<b16>[0-9a-fA-F]*+)(?:[pP](?<e16>[+-]?+[0-9]++))?+|"
            + "(?<a>[0-9]*+)(?<p>\\.?+)(?<b>[0-9]*+)(?:[eE](?<e>[+-]?+[0-9]++))?+)" + BLANKS);
        /** What may stand behind the beginning of a text of a number so that it becomes one. */
        private static final String[] ENDS = {"", "0"};

        private final StringBuilder tape = new StringBuilder();
        private int kind = 1;
        /** Of a whole number or a real. */
        private BigDecimal value = BigDecimal.ZERO;
        private String page = "";

        int type(long bytes, int n) {
            if (n < 1 || n > 8) {
                return -1;
            }
            if (tape.length() + n > 1200) {
                return -3;
            }
            for (int i = n - 1; i >= 0; i--) {
                tape.append((char) (bytes >>> 8 * i & 255));
            }
            return tape.length();
        }

        int read() {
            String text = tape.toString();
            tape.setLength(0);
            Matcher parts = match(text);
            if (parts != null) {
                take(parts);
                return kind;
            }
            int place = 0;
            while (place < text.length() && goesOn(text.substring(0, place + 1))) {
                place++;
            }
            return -100 - place;
        }

        private static Matcher match(String text) {
            Matcher parts = TEXT.matcher(text);
            if (!parts.matches()) {
                return null;
            }
            String digits = parts.group("a16") != null ? parts.group("a16") + parts.group("b16") : parts.group("a") + parts.group("b");
            return digits.isEmpty() ? null : parts;
        }

        private static boolean goesOn(String beginning) {
            for (String end : ENDS) {
                if (match(beginning + end) != null) {
                    return true;
                }
            }
            return false;
        }

        private void take(Matcher parts) {
            boolean with16 = parts.group("a16") != null;
            String before = parts.group(with16 ? "a16" : "a");
            String behind = parts.group(with16 ? "b16" : "b");
            String power = parts.group(with16 ? "e16" : "e");
            boolean minus = parts.group("sign").equals("-");
            BigInteger digits = new BigInteger("0" + before + behind, with16 ? 16 : 10);
            boolean whole = power == null && parts.group(with16 ? "p16" : "p").isEmpty();
            if (whole && (with16 || digits.compareTo(TO_THE_63) < 0)) {
                whole(minus ? -digits.longValue() : digits.longValue());
                return;
            }
            takeNearest(scaled(digits, behind.length(), new BigInteger(power == null ? "0" : power), with16), minus);
        }

        /** Powers beyond 9999 outweigh whatever 1200 bytes can say otherwise. */
        private static BigDecimal scaled(BigInteger digits, int behind, BigInteger power, boolean with16) {
            BigInteger most = BigInteger.valueOf(9999);
            int near = power.min(most).max(most.negate()).intValueExact();
            BigDecimal number = new BigDecimal(digits);
            return with16 ? times2(number, near - 4 * behind) : number.scaleByPowerOfTen(near - behind);
        }

        static BigDecimal times2(BigDecimal number, int power) {
            return number.multiply(POWERS_OF_2.computeIfAbsent(power, e -> e < 0 ? HALF.pow(-e) : TWO.pow(e)));
        }

        private void takeNearest(BigDecimal size, boolean minus) {
            if (size.compareTo(TOO_GREAT) >= 0) {
                kind = minus ? 4 : 3;
                return;
            }
            kind = 2;
            value = minus ? nearest(size).negate() : nearest(size);
        }

        /** Rounded to a multiple of the least 2^e with which m is not above 2^53. */
        private static BigDecimal nearest(BigDecimal size) {
            if (size.signum() == 0 || size.precision() - size.scale() < -330) {
                return BigDecimal.ZERO;
            }
            int e = Math.max(-1074, bitsOf(size) - 53);
            return times2(times2(size, -e).setScale(0, RoundingMode.HALF_EVEN), e);
        }

        /** How many bits stand before the point; with units of 2^-1074 so that this is a question of whole numbers. */
        private static int bitsOf(BigDecimal size) {
            return times2(size, 1074).toBigInteger().bitLength() - 1074;
        }

        void whole(long v) {
            kind = 1;
            value = BigDecimal.valueOf(v);
        }

        int real(long m, int e) {
            if (Math.abs(m) > 1L << 53 || Math.abs((long) e) > 1200) {
                return -1;
            }
            takeNearest(times2(BigDecimal.valueOf(Math.abs(m)), e), m < 0);
            return kind;
        }

        boolean special(int newKind) {
            boolean known = newKind == 3 || newKind == 4 || newKind == 5;
            kind = known ? newKind : kind;
            return known;
        }

        long number() {
            return kind == 1 ? value.longValueExact() : kind == 2 ? parts()[0].longValueExact() : 0;
        }

        int exponent() {
            return kind == 2 ? parts()[1].intValueExact() : 0;
        }

        private BigInteger[] parts() {
            if (value.signum() == 0) {
                return new BigInteger[] {BigInteger.ZERO, BigInteger.ZERO};
            }
            BigInteger units = times2(value, 1074).toBigIntegerExact();
            int zeros = units.getLowestSetBit();
            return new BigInteger[] {units.shiftRight(zeros), BigInteger.valueOf(zeros - 1074)};
        }

        private boolean isNumber() {
            return kind == 1 || kind == 2;
        }

        private boolean isLess() {
            return isNumber() ? value.signum() < 0 : kind == 4;
        }

        private BigDecimal asReal() {
            return nearest(value.abs());
        }

        int plain() {
            if (kind == 1) {
                page = value.toBigIntegerExact().toString();
                return page.length();
            }
            form('g', 0, 0, 14);
            page += kind == 2 && !page.contains(".") && !page.contains("e") ? ".0" : "";
            return page.length();
        }

        int shortest() {
            if (!isNumber()) {
                return -1;
            }
            for (int precision = 0; ; precision++) {
                BigDecimal rounded = asReal().round(new MathContext(precision + 1, RoundingMode.HALF_EVEN));
                if (rounded.compareTo(TOO_GREAT) < 0 && nearest(rounded).compareTo(asReal()) == 0) {
                    form('e', 0, 0, precision);
                    return precision + 1;
                }
            }
        }

        int form(char letter, int flags, int width, int precision) {
            boolean wholes = letter != 0 && "dxXo".indexOf(letter) >= 0;
            boolean reals = letter != 0 && "eEfFgGaA".indexOf(letter) >= 0;
            boolean inside = flags >= 0 && flags <= 31 && width >= 0 && width <= 99 && precision >= -1 && precision <= 99;
            if (!wholes && !reals || !inside || wholes && !isWhole64()) {
                return -1;
            }
            boolean sharp = (flags & 8) != 0;
            boolean small = letter >= 'a';
            String sign = isLess() ? "-" : (flags & 2) != 0 ? "+" : (flags & 4) != 0 ? " " : "";
            String mark = "";
            String digits;
            if (wholes) {
                sign = letter == 'd' ? sign : "";
                mark = sharp && (letter == 'x' || letter == 'X') && value.signum() != 0 ? "0x" : "";
                digits = digitsOfWhole(letter, sharp, precision);
            } else if (isNumber()) {
                mark = letter == 'a' || letter == 'A' ? "0x" : "";
                digits = digitsOfReal(Character.toLowerCase(letter), sharp, precision);
            } else {
                digits = kind == 5 ? "nan" : "inf";
            }
            digits = small ? digits : digits.toUpperCase();
            mark = small ? mark : mark.toUpperCase();
            boolean zeros = (flags & 16) != 0 && isNumber() && !(wholes && precision >= 0);
            int lack = Math.max(0, width - sign.length() - mark.length() - digits.length());
            if ((flags & 1) != 0) {
                page = sign + mark + digits + " ".repeat(lack);
            } else {
                page = zeros ? sign + mark + "0".repeat(lack) + digits : " ".repeat(lack) + sign + mark + digits;
            }
            return page.length();
        }

        private boolean isWhole64() {
            if (!isNumber() || value.stripTrailingZeros().scale() > 0) {
                return false;
            }
            return value.toBigIntegerExact().bitLength() <= 63;
        }

        private String digitsOfWhole(char letter, boolean sharp, int precision) {
            BigInteger number = value.toBigIntegerExact();
            BigInteger shown = letter == 'd' ? number.abs() : number.mod(TO_THE_64);
            String digits = shown.toString(letter == 'd' ? 10 : letter == 'o' ? 8 : 16);
            digits = precision == 0 && number.signum() == 0 ? "" : digits;
            digits = "0".repeat(Math.max(0, precision - digits.length())) + digits;
            return letter == 'o' && sharp && !digits.startsWith("0") ? "0" + digits : digits;
        }

        private String digitsOfReal(char letter, boolean sharp, int precision) {
            int behind = precision < 0 ? 6 : precision;
            switch (letter) {
                case 'e': return formE(behind, sharp);
                case 'f': return formF(behind, sharp);
                case 'g': return formG(Math.max(1, behind), sharp);
                default: return formA(precision, sharp);
            }
        }

        private static String withPoint(String digits, int behind, boolean sharp) {
            String all = "0".repeat(Math.max(0, behind + 1 - digits.length())) + digits;
            int before = all.length() - behind;
            return all.substring(0, before) + (behind > 0 || sharp ? "." : "") + all.substring(before);
        }

        private BigDecimal rounded(int behind) {
            return asReal().round(new MathContext(behind + 1, RoundingMode.HALF_EVEN));
        }

        private int powerOf10(int behind) {
            BigDecimal rounded = rounded(behind);
            return rounded.signum() == 0 ? 0 : rounded.precision() - 1 - rounded.scale();
        }

        private String formE(int behind, boolean sharp) {
            int power = powerOf10(behind);
            BigInteger digits = rounded(behind).scaleByPowerOfTen(behind - power).toBigIntegerExact();
            String ten = Math.abs(power) < 10 ? "0" + Math.abs(power) : "" + Math.abs(power);
            return withPoint(digits.toString(), behind, sharp) + (power < 0 ? "e-" : "e+") + ten;
        }

        private String formF(int behind, boolean sharp) {
            return withPoint(asReal().setScale(behind, RoundingMode.HALF_EVEN).unscaledValue().toString(), behind, sharp);
        }

        private String formG(int most, boolean sharp) {
            int power = powerOf10(most - 1);
            String text = power >= -4 && power < most ? formF(most - 1 - power, sharp) : formE(most - 1, sharp);
            int end = text.indexOf('e') < 0 ? text.length() : text.indexOf('e');
            String front = text.substring(0, end);
            if (!sharp && front.contains(".")) {
                front = front.replaceAll("\\.?0*$", "");
            }
            return front + text.substring(end);
        }

        private String formA(int precision, boolean sharp) {
            BigDecimal size = asReal();
            int power = size.signum() == 0 ? 0 : Math.max(-1022, bitsOf(size) - 1);
            BigInteger bits = times2(size, 52 - power).toBigIntegerExact();
            int behind = precision;
            if (precision < 0) {
                behind = bits.signum() == 0 ? 0 : 13 - Math.min(13, bits.getLowestSetBit() / 4);
            }
            BigInteger digits = times2(new BigDecimal(bits), 4 * behind - 52).setScale(0, RoundingMode.HALF_EVEN).toBigIntegerExact();
            return withPoint(digits.toString(16), behind, sharp) + (power < 0 ? "p-" : "p+") + Math.abs(power);
        }
    }
}
