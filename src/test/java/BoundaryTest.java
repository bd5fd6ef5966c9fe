import java.math.BigDecimal;
import java.math.BigInteger;
import java.nio.charset.StandardCharsets;
import java.nio.file.Files;
import java.nio.file.Path;
import java.util.regex.Matcher;
import java.util.regex.Pattern;

/**
 * One test for each sentence of the document that names a boundary case, in the document's order. Each begins with the
 * promise and the sentence that it is for, and stands on both sides of the boundary. No object has more than 512 calls.
 */
public final class BoundaryTest {
    private static final int BAD = NumeralTexts.BAD;
    private static final int FULL = NumeralTexts.FULL;
    private static final long TWO53 = 1L << 53;
    private static final long MOST = Long.MAX_VALUE;
    private static final long LEAST = Long.MIN_VALUE;
    private static final String LETTERS = "dxXoeEfFgGaA";
    private static final String LETTERS_OF_WHOLES = "dxXo";
    private static final String LETTERS_OF_REALS = "eEfFgGaA";
    private static final BigInteger TOO_GREAT = power2(1024).subtract(power2(970));
    private static final Path DOCUMENT = Path.of("..", "shared", "DOC.md");

    private static int wrong = 0;
    private static int sentences = 0;
    private static int answers = 0;
    private static String promise = "";
    private static String sentence = "";
    private static String document = "";

    public static void main(String[] args) throws Exception {
        if (Files.isReadable(DOCUMENT)) {
            document = spaced(Files.readString(DOCUMENT, StandardCharsets.UTF_8));
        } else {
            System.out.println("there is no " + DOCUMENT + " here: the sentences are not compared with it");
        }
        useAndConstants();
        termsOfValues();
        termsOfTexts();
        termsOfNumerals();
        termsOfPlain();
        termsOfFormsOfWholes();
        termsOfFormsOfReals();
        termsOfFormA();
        termsOfSignsAndWidths();
        promises1To3();
        promises4To9();
        promises10And11();
        promises12And13();
        System.out.println(sentences + " sentences, " + answers + " answers, " + wrong + " not as due");
        if (wrong != 0) {
            System.exit(1);
        }
    }

    // ---- how a test is told

    private static void sentence(String ofPromise, String words) {
        promise = ofPromise;
        sentence = words;
        sentences++;
        if (!document.isEmpty() && !document.contains(spaced(words))) {
            wrong++;
            System.out.println(promise + ": the document does not say \"" + words + "\"");
        }
    }

    private static String spaced(String text) {
        return text.replaceAll("\\s+", " ");
    }

    private static void due(String what, Object got, Object want) {
        answers++;
        if (!want.equals(got)) {
            wrong++;
            System.out.println(promise + ", \"" + sentence + "\": " + what + " answered " + got + ", due is " + want);
        }
    }

    // ---- objects

    private static NumeralTexts empty() {
        return new NumeralTexts();
    }

    private static NumeralTexts ofWhole(long v) {
        NumeralTexts x = empty();
        x.whole(v);
        return x;
    }

    private static NumeralTexts ofReal(long m, int e) {
        NumeralTexts x = empty();
        x.real(m, e);
        return x;
    }

    private static NumeralTexts ofSpecial(int kind) {
        NumeralTexts x = empty();
        x.special(kind);
        return x;
    }

    private static NumeralTexts ofText(String text) {
        NumeralTexts x = empty();
        typeText(x, text);
        x.read();
        return x;
    }

    /** One value of each kind: 1 .. 5. */
    private static NumeralTexts ofKind(int kind) {
        return kind == 1 ? ofWhole(-6) : kind == 2 ? ofReal(-5, -3) : ofSpecial(kind);
    }

    private static void dueKind(String what, NumeralTexts x, int kind) {
        dueValue(what, x, kind, kind == 1 ? -6 : kind == 2 ? -5 : 0, kind == 2 ? -3 : 0);
    }

    private static int typeText(NumeralTexts x, String text) {
        int answer = 0;
        for (int from = 0; from < text.length(); from += 8) {
            int to = Math.min(text.length(), from + 8);
            long bytes = 0;
            for (int i = from; i < to; i++) {
                bytes = bytes << 8 | text.charAt(i);
            }
            answer = x.type(bytes, to - from);
        }
        return answer;
    }

    private static String page(NumeralTexts x) {
        StringBuilder text = new StringBuilder();
        int b = x.written(0);
        for (int i = 1; b != BAD && i < 450; i++) {
            text.append((char) b);
            b = x.written(i);
        }
        return text.toString();
    }

    private static BigInteger power2(int power) {
        return BigInteger.ONE.shiftLeft(power);
    }

    // ---- answers of several calls at once

    private static void dueValue(String what, NumeralTexts x, int kind, long number, int exponent) {
        due(what + ", kind()", x.kind(), kind);
        due(what + ", number()", x.number(), number);
        due(what + ", exponent()", x.exponent(), exponent);
    }

    private static String shown(String text) {
        return text.length() <= 60 ? "'" + text + "'"
            : "'" + text.substring(0, 40) + ".." + text.substring(text.length() - 12) + "' (" + text.length() + " bytes)";
    }

    private static void dueRead(String text, int kind, long number, int exponent) {
        NumeralTexts x = empty();
        due(shown(text) + " typed", typeText(x, text), text.length());
        due(shown(text) + " read", x.read(), kind);
        dueValue(shown(text), x, kind, number, exponent);
    }

    private static void dueBothSigns(String text, int kind, long number, int exponent) {
        dueRead(text, kind, number, exponent);
        dueRead("+" + text, kind, number, exponent);
        dueRead("-" + text, kind == 3 ? 4 : kind, -number, exponent);
    }

    private static void dueWrong(String text, int place) {
        NumeralTexts x = ofReal(-3, 7);
        typeText(x, text);
        due(shown(text) + " read", x.read(), -100 - place);
        dueValue(shown(text), x, 2, -3, 7);
        due(shown(text) + ", then type", x.type('1', 1), 1);
    }

    private static void dueReal(long m, int e, int kind, long number, int exponent) {
        NumeralTexts x = empty();
        due("real(" + m + ", " + e + ")", x.real(m, e), kind);
        dueValue("real(" + m + ", " + e + ")", x, kind, number, exponent);
    }

    private static void dueRealBothSigns(long m, int e, int kind, long number, int exponent) {
        dueReal(m, e, kind, number, exponent);
        dueReal(-m, e, kind == 3 ? 4 : kind, -number, exponent);
    }

    private static void duePlain(NumeralTexts x, String want) {
        due("plain() for " + want, x.plain(), want.length());
        due("plain()", page(x), want);
    }

    /** form is told as C does, without the %. */
    private static int callForm(NumeralTexts x, String form) {
        int at = 0;
        int flags = 0;
        while ("-+ #0".indexOf(form.charAt(at)) >= 0) {
            flags |= 1 << "-+ #0".indexOf(form.charAt(at));
            at++;
        }
        char letter = form.charAt(form.length() - 1);
        String[] parts = form.substring(at, form.length() - 1).split("\\.", -1);
        int width = parts[0].isEmpty() ? 0 : Integer.parseInt(parts[0]);
        int precision = parts.length < 2 ? -1 : Integer.parseInt(parts[1]);
        return x.form(letter, flags, width, precision);
    }

    private static void dueForm(NumeralTexts x, String form, String want) {
        due("form %" + form + " for " + shown(want), callForm(x, form), want.length());
        due("form %" + form, page(x), want);
    }

    private static void dueForms(long v, String... formsAndTexts) {
        for (int i = 0; i + 1 < formsAndTexts.length; i += 2) {
            dueForm(ofWhole(v), formsAndTexts[i], formsAndTexts[i + 1]);
        }
    }

    private static void dueForms(String value, String... formsAndTexts) {
        for (int i = 0; i + 1 < formsAndTexts.length; i += 2) {
            dueForm(ofText(value), formsAndTexts[i], formsAndTexts[i + 1]);
        }
    }

    private static void dueForms(long m, int e, String... formsAndTexts) {
        for (int i = 0; i + 1 < formsAndTexts.length; i += 2) {
            dueForm(ofReal(m, e), formsAndTexts[i], formsAndTexts[i + 1]);
        }
    }

    private static void dueShortest(NumeralTexts x, String want) {
        int digits = want.substring(0, want.indexOf('e')).replaceAll("[^0-9]", "").length();
        due("shortest() for " + want, x.shortest(), digits);
        due("shortest()", page(x), want);
    }

    // ---- What it is; The public face

    private static void useAndConstants() {
        last512();
        bad();
        full();
    }

    private static void last512() {
        sentence("All promises", "An object is used for at most 512 calls after it has been made;");
        NumeralTexts x = empty();
        for (int call = 1; call <= 509; call++) {
            due("type, call " + call, x.type('0', 1), call);
        }
        due("type, call 510", x.type('7', 1), 510);
        due("read, call 511", x.read(), 1);
        due("number, call 512", x.number(), 7L);
        NumeralTexts y = ofReal(-1, 1023);
        String most = "-" + power2(1023) + "." + "0".repeat(99);
        due("form, call 2", y.form('f', 0, 0, 99), most.length());
        for (int call = 3; call <= 512; call++) {
            int i = call - 3;
            due("written(" + i + "), call " + call, y.written(i), i < most.length() ? (int) most.charAt(i) : BAD);
        }
    }

    private static void bad() {
        sentence("Promises 2, 5, 11, 12 and 13", "public static final int BAD = -1;");
        due("BAD", NumeralTexts.BAD, -1);
        due("a bad call", empty().type(0, 0), -1);
    }

    private static void full() {
        sentence("Promise 2", "public static final int FULL = -3;");
        NumeralTexts x = empty();
        typeText(x, " ".repeat(1200));
        due("FULL", NumeralTexts.FULL, -3);
        due("a call too many", x.type(0, 1), -3);
    }

    // ---- Terms: VALUE, THE NEAREST

    private static void termsOfValues() {
        wholeNumbersOf64Bits();
        realsOfAllSizes();
        nearestOfTwo();
        nearestIsLeastFar();
        infinityFromThere();
    }

    private static void wholeNumbersOf64Bits() {
        sentence("Promises 3 and 4", "A VALUE is a WHOLE number, -2^63 .. 2^63 - 1;");
        for (long v : new long[] {LEAST, LEAST + 1, -TWO53 - 1, -1, 0, 1, TWO53 + 1, MOST - 1, MOST}) {
            dueValue("whole(" + v + ")", ofWhole(v), 1, v, 0);
        }
        dueRead("9223372036854775807", 1, MOST, 0);
        dueRead("9223372036854775808", 2, 1, 63);
    }

    private static void realsOfAllSizes() {
        sentence("Promises 3 and 5",
            "a REAL m * 2^e with whole m, -2^53 .. 2^53, and e, -1074 .. 971 (one 0 among them);");
        dueRealBothSigns(TWO53 - 1, 971, 2, TWO53 - 1, 971);
        dueRealBothSigns(TWO53, 970, 2, 1, 1023);
        dueRealBothSigns(TWO53 - 1, -1074, 2, TWO53 - 1, -1074);
        dueRealBothSigns(1, -1074, 2, 1, -1074);
        dueRealBothSigns(TWO53 - 1, 0, 2, TWO53 - 1, 0);
        dueRealBothSigns(TWO53, 0, 2, 1, 53);
        dueReal(0, 971, 2, 0, 0);
        dueReal(0, -1074, 2, 0, 0);
        for (String zero : new String[] {"0.0", "-0.0", "-0e5", "-0x0p0", "-1e-400", "-0x1p-1075"}) {
            dueRead(zero, 2, 0, 0);
            duePlain(ofText(zero), "0.0");
            dueForm(ofText(zero), "+.0e", "+0e+00");
            dueForm(ofText(zero), "a", "0x0p+0");
            dueForm(ofText(zero), "d", "0");
            dueShortest(ofText(zero), "0e+00");
        }
    }

    private static void nearestIsLeastFar() {
        sentence("Promises 3, 5 and 11", "THE NEAREST of a rational number is the real that is least far away;");
        dueBothSigns("9007199254740993." + "0".repeat(1181) + "1", 2, 4503599627370497L, 1);
        dueBothSigns("9007199254740992." + "9".repeat(1182), 2, 1, 53);
        dueBothSigns("9007199254740995." + "0".repeat(1181) + "1", 2, 2251799813685249L, 2);
        dueBothSigns("9007199254740994." + "9".repeat(1182), 2, 4503599627370497L, 1);
        dueBothSigns("0x20000000000001." + "0".repeat(1181) + "1", 2, 4503599627370497L, 1);
        dueBothSigns("0x20000000000000." + "f".repeat(1182), 2, 1, 53);
        dueBothSigns("0x1.00000000000008" + "0".repeat(1100) + "1", 2, (1L << 52) + 1, -52);
        dueBothSigns("0x1.00000000000007" + "f".repeat(1100), 2, 1, 0);
        for (int power = 1; power <= 970; power += 17) {
            BigInteger between = BigInteger.valueOf(TWO53 + 1).shiftLeft(power);
            dueBothSigns(between.subtract(BigInteger.ONE) + ".9", 2, 1, 53 + power);
            dueBothSigns(between + ".", 2, 1, 53 + power);
            dueBothSigns(between + "." + "0".repeat(880) + "1", 2, (1L << 52) + 1, power + 1);
            dueBothSigns(between.add(BigInteger.ONE) + ".", 2, (1L << 52) + 1, power + 1);
        }
        dueBothSigns("0x" + "0".repeat(500) + "1.00000000000008" + "0".repeat(600) + "1p0", 2, (1L << 52) + 1, -52);
        dueBothSigns("0x." + "0".repeat(500) + "100000000000008" + "0".repeat(600) + "1p2004", 2, (1L << 52) + 1, -52);
        dueBothSigns("0x." + "0".repeat(500) + "100000000000008" + "0".repeat(600) + "0p2004", 2, 1, 0);
        String middle = new BigDecimal(Double.MIN_VALUE).divide(BigDecimal.valueOf(2)).toPlainString();
        dueRead(middle + "0".repeat(1199 - middle.length()) + "1", 2, 1, -1074);
        String below = middle.substring(0, middle.length() - 1) + "4";
        dueRead(below + "9".repeat(1200 - below.length()), 2, 0, 0);
        dueRealBothSigns(TWO53 - 1, -1127, 2, 1, -1074);
        dueRealBothSigns(TWO53 - 1, -1128, 2, 0, 0);
        dueRealBothSigns((1L << 52) + 1, -1127, 2, 1, -1074);
        dueRealBothSigns((1L << 52) - 1, -1127, 2, 0, 0);
    }

    private static void nearestOfTwo() {
        sentence("Promises 3, 5 and 11", "of two, that whose m is even when it is written with the least e;");
        dueBothSigns("9007199254740993.0", 2, 1, 53);
        dueBothSigns("9007199254740995.0", 2, 2251799813685249L, 2);
        dueBothSigns("0x1ffffffffffffe.8", 2, (1L << 52) - 1, 1);
        dueBothSigns("0x1fffffffffffff.8", 2, 1, 53);
        dueBothSigns("0x20000000000001.", 2, 1, 53);
        dueBothSigns("0x1.00000000000008p0", 2, 1, 0);
        dueBothSigns("0x1.00000000000018p0", 2, (1L << 51) + 1, -51);
        dueBothSigns("0x1p-1075", 2, 0, 0);
        dueBothSigns("0x3p-1075", 2, 1, -1073);
        dueBothSigns("0x5p-1075", 2, 1, -1073);
        dueBothSigns("0x7p-1075", 2, 1, -1072);
        dueBothSigns("0x1fffffffffffffp-1075", 2, 1, -1022);
        dueBothSigns("0x1ffffffffffffdp-1075", 2, (1L << 51) - 1, -1073);
        dueBothSigns(new BigDecimal(Double.MIN_VALUE).divide(BigDecimal.valueOf(2)).toPlainString(), 2, 0, 0);
        dueBothSigns(new BigDecimal(Double.MIN_VALUE).multiply(new BigDecimal("1.5")).toPlainString(), 2, 1, -1073);
        dueRealBothSigns(1, -1075, 2, 0, 0);
        dueRealBothSigns(3, -1075, 2, 1, -1073);
        dueRealBothSigns(5, -1075, 2, 1, -1073);
        dueRealBothSigns(TWO53, -1128, 2, 0, 0);
        dueRealBothSigns(TWO53 - 1, -1075, 2, 1, -1022);
        dueRealBothSigns(TWO53 - 3, -1075, 2, (1L << 51) - 1, -1073);
        dueForms(TWO53 + 1, ".0f", "9007199254740992");
        dueForms(TWO53 + 3, ".0f", "9007199254740996");
        dueForms(-TWO53 - 1, ".0f", "-9007199254740992");
        dueForms(-TWO53 - 3, ".0f", "-9007199254740996");
    }

    private static void infinityFromThere() {
        sentence("Promises 3 and 5",
            "but if it is 2^1024 - 2^970 or more in size, the infinity of its sign.");
        dueBothSigns(TOO_GREAT + ".", 3, 0, 0);
        dueBothSigns(TOO_GREAT + "." + "0".repeat(880) + "1", 3, 0, 0);
        dueBothSigns(TOO_GREAT.subtract(BigInteger.ONE) + "." + "9".repeat(880), 2, TWO53 - 1, 971);
        dueBothSigns(TOO_GREAT.toString(), 3, 0, 0);
        dueBothSigns(TOO_GREAT.subtract(BigInteger.ONE).toString(), 2, TWO53 - 1, 971);
        dueBothSigns("0x1.fffffffffffff8p1023", 3, 0, 0);
        dueBothSigns("0x1.fffffffffffff7" + "f".repeat(1100) + "p1023", 2, TWO53 - 1, 971);
        dueBothSigns("0x1p1024", 3, 0, 0);
        dueBothSigns("0x1p1023", 2, 1, 1023);
        dueRealBothSigns(TWO53, 971, 3, 0, 0);
        dueRealBothSigns(TWO53 - 1, 972, 3, 0, 0);
        dueRealBothSigns((1L << 52) - 1, 972, 2, (1L << 52) - 1, 972);
        dueRealBothSigns(1L << 52, 972, 3, 0, 0);
        dueRealBothSigns(1, 1023, 2, 1, 1023);
        dueRealBothSigns(1, 1024, 3, 0, 0);
        dueRealBothSigns(3, 1022, 2, 3, 1022);
        dueRealBothSigns(3, 1023, 3, 0, 0);
    }

    // ---- Terms: THE TAPE, A TEXT OF A NUMBER

    private static void termsOfTexts() {
        tapeOf1200();
        blanks();
        digits();
        digitsWith16();
        textOfANumber();
    }

    private static void tapeOf1200() {
        sentence("Promise 2", "THE TAPE has at most 1200 bytes.");
        dueRead(" ".repeat(1199) + "7", 1, 7, 0);
        dueRead("7" + " ".repeat(1199), 1, 7, 0);
        NumeralTexts x = empty();
        due("1200 bytes", typeText(x, " ".repeat(1199) + "7"), 1200);
        due("the 1201st", x.type('8', 1), FULL);
        due("read", x.read(), 1);
        due("number", x.number(), 7L);
    }

    private static void blanks() {
        sentence("Promise 3", "BLANKS are the bytes 9 .. 13 and 32;");
        for (int b = 0; b < 256; b++) {
            boolean blank = b >= 9 && b <= 13 || b == 32;
            String text = String.valueOf((char) b);
            if (blank) {
                dueRead(text + "5" + text, 1, 5, 0);
            } else if ("0123456789+-.".indexOf(b) < 0) {
                dueWrong(text + "5", 0);
            }
            if (!blank && "0123456789.eE".indexOf(b) < 0) {
                dueWrong("5" + text, 1);
                dueWrong("5 " + text, 2);
            }
        }
    }

    private static void digits() {
        sentence("Promise 3", "DIGITS 0 .. 9,");
        for (int b = 0; b < 256; b++) {
            String text = String.valueOf((char) b);
            if (b >= '0' && b <= '9') {
                dueRead("1" + text, 1, 10 + b - '0', 0);
                dueRead("+" + text, 1, b - '0', 0);
                dueValue("." + text, ofText("." + text + "e1"), 2, realOf(b - '0')[0], (int) realOf(b - '0')[1]);
                dueValue("0x1p" + text, ofText("0x1p" + text), 2, 1, b - '0');
                dueValue("1e" + text, ofText("1e" + text), 2, realOf(Math.pow(10, b - '0'))[0],
                    (int) realOf(Math.pow(10, b - '0'))[1]);
            } else {
                dueWrong("." + text, 1);
                dueWrong("+" + text + "5", b == '.' ? 3 : 1, b == '.');
                dueWrong("1e" + text, b == '+' || b == '-' ? 3 : 2);
                dueWrong("1e+" + text, 3);
                dueWrong("0x1p" + text, b == '+' || b == '-' ? 5 : 4);
                dueWrong("0x1p-" + text, 5);
            }
        }
    }

    private static void dueWrong(String text, int place, boolean isRight) {
        if (!isRight) {
            dueWrong(text, place);
        }
    }

    private static void digitsWith16() {
        sentence("Promise 3", "those with 16 also a .. f and A .. F.");
        for (int b = 0; b < 256; b++) {
            String text = String.valueOf((char) b);
            int digit = b < 128 ? Character.digit(b, 16) : -1;
            if (digit >= 0) {
                dueRead("0x" + text, 1, digit, 0);
                dueRead("0X1" + text, 1, 16 + digit, 0);
                dueRead("0x." + text, 2, realOf(digit / 16.0)[0], (int) realOf(digit / 16.0)[1]);
            } else {
                dueWrong("0x" + text, b == '.' ? 3 : 2);
                dueWrong("0x." + text, 3);
            }
            if (digit >= 10 && b != 'e' && b != 'E') {
                dueWrong("1" + text, 1);
            }
        }
    }

    /** The odd factor and the power of 2 of a double that is not below 0. */
    private static long[] realOf(double d) {
        long bits = Double.doubleToLongBits(d);
        int raw = (int) (bits >>> 52);
        long m = bits & ((1L << 52) - 1) | (raw > 0 ? 1L << 52 : 0);
        int zeros = Long.numberOfTrailingZeros(m);
        return m == 0 ? new long[] {0, 0} : new long[] {m >> zeros, (raw > 0 ? raw : 1) - 1075 + zeros};
    }

    private static void textOfANumber() {
        sentence("Promise 3",
            "A TEXT OF A NUMBER is any number of blanks, perhaps + or -, a numeral, and any number of blanks.");
        dueRead("5", 1, 5, 0);
        dueRead("+5", 1, 5, 0);
        dueRead("-5", 1, -5, 0);
        dueRead(" \t\n\u000b\f\r-5\r\f\u000b\n\t ", 1, -5, 0);
        dueRead(" ".repeat(600) + "5" + "\t".repeat(599), 1, 5, 0);
        dueWrong("", 0);
        dueWrong(" ", 1);
        dueWrong(" ".repeat(1200), 1200);
        dueWrong("+", 1);
        dueWrong("-", 1);
        dueWrong("++5", 1);
        dueWrong("--5", 1);
        dueWrong("+-5", 1);
        dueWrong("- 5", 1);
        dueWrong("5 5", 2);
        dueWrong("5-", 1);
        dueWrong("5 +", 2);
        dueWrong(" ".repeat(1198) + "5x", 1199);
    }

    // ---- Terms: A NUMERAL, WRONG

    private static void termsOfNumerals() {
        numeralWith10();
        numeralWith16();
        atLeastOneDigit();
        wrongPlace();
        allShortTexts();
        wholeWith16();
        wholeWith10();
        anyOther();
        digitBehindThePoint();
        withMinus();
        minusAndTwo63();
    }

    private static void numeralWith10() {
        sentence("Promise 3", "A NUMERAL is digits with at most one . among, before or behind them, "
            + "and perhaps e or E, perhaps + or -, and digits;");
        dueRead("25", 1, 25, 0);
        dueRead("2.5", 2, 5, -1);
        dueRead(".25", 2, 1, -2);
        dueRead("25.", 2, 25, 0);
        dueRead("2.5e1", 2, 25, 0);
        dueRead("25.E+1", 2, 125, 1);
        dueRead(".25e-0", 2, 1, -2);
        dueWrong("2..5", 2);
        dueWrong("2.5.", 3);
        dueWrong(".2.5", 2);
        dueWrong("..25", 1);
        dueWrong("25e1.", 4);
        dueWrong("25e.1", 3);
        dueWrong("25e1e1", 4);
        dueWrong("25e++1", 4);
        dueWrong("25e1+1", 4);
        dueWrong("25p1", 2);
        dueWrong("25 e1", 3);
        dueWrong("25e 1", 3);
        dueWrong("2 .5", 2);
    }

    private static void numeralWith16() {
        sentence("Promise 3", "or 0x or 0X, and digits with 16 likewise, and perhaps p or P, perhaps + or -, and digits");
        dueRead("0x2a", 1, 42, 0);
        dueRead("0X2A", 1, 42, 0);
        dueRead("0x2.8", 2, 5, -1);
        dueRead("0x.4", 2, 1, -2);
        dueRead("0x4.", 2, 1, 2);
        dueRead("0x1.8p1", 2, 3, 0);
        dueRead("0X1P+4", 2, 1, 4);
        dueRead("0x1.p-4", 2, 1, -4);
        dueRead("0x1e4", 1, 0x1e4, 0);
        dueRead("0xep4", 2, 7, 5);
        dueWrong("0x1..8", 4);
        dueWrong("0x1.8.", 5);
        dueWrong("0x1e+4", 4);
        dueWrong("0x1p4.", 5);
        dueWrong("0x1p4p4", 5);
        dueWrong("0x1p++4", 5);
        dueWrong("0x1pa", 4);
        dueWrong("0x1p1a", 5);
        dueWrong("1x1", 1);
        dueWrong("00x1", 2);
        dueWrong("x1", 0);
        dueWrong("0.x1", 2);
        dueWrong("0 x1", 2);
        dueWrong("0x 1", 2);
        dueWrong("0x-1", 2);
        dueWrong("0x0x1", 3);
    }

    private static void atLeastOneDigit() {
        sentence("Promise 3", "(there is at least one digit before the e or p, and one behind it).");
        dueRead("0e0", 2, 0, 0);
        dueRead("0.e0", 2, 0, 0);
        dueRead(".0e0", 2, 0, 0);
        dueRead("0x0p0", 2, 0, 0);
        dueRead("0x.0p0", 2, 0, 0);
        dueWrong("e0", 0);
        dueWrong(".e0", 1);
        dueWrong("+e0", 1);
        dueWrong("0xp0", 2);
        dueWrong("0x.p0", 3);
        dueWrong("0e", 2);
        dueWrong("0e+", 3);
        dueWrong("0e-", 3);
        dueWrong("0.0e", 4);
        dueWrong("0x0p", 4);
        dueWrong("0x0p+", 5);
        dueWrong("0x0p-", 5);
        dueWrong(".", 1);
        dueWrong("0x", 2);
        dueWrong("0x.", 3);
    }

    private static void wrongPlace() {
        sentence("Promise 3", "It is WRONG at the first place (how many bytes before it) with whose byte no text of a "
            + "number goes on, or at its end, when it is none there.");
        dueWrong("a", 0);
        dueWrong("1a", 1);
        dueWrong("1aa", 1);
        dueWrong("1e1a", 3);
        dueWrong("0xg.", 2);
        dueWrong("  - ", 3);
        dueWrong("1 a b", 2);
        dueWrong("inf", 0);
        dueWrong("nan", 0);
        dueWrong("1".repeat(1199) + "a", 1199);
        dueWrong("a" + "1".repeat(1199), 0);
        dueWrong("1".repeat(1199) + "e", 1200);
        dueWrong("1e" + "1".repeat(1197) + "e", 1199);
        dueWrong(" ".repeat(1199) + "-", 1200);
    }

    private static final Pattern TEXT = Pattern.compile("[\\t-\\r ]*[+-]?(?:"
        + "(?:[0-9]+\\.?[0-9]*|\\.[0-9]+)(?:[eE][+-]?[0-9]+)?|"
        + "0[xX](?:[0-9a-fA-F]+\\.?[0-9a-fA-F]*|\\.[0-9a-fA-F]+)(?:[pP][+-]?[0-9]+)?)[\\t-\\r ]*");

    /** Every text of at most five of these bytes: the place of a wrong one, and the value of the others. */
    private static void allShortTexts() {
        sentence("Promise 3", "or at its end, when it is none there.");
        String bytes = " +-019.exXpFg";
        int count = 1;
        for (int length = 0; length <= 5; length++) {
            for (int n = 0; n < count; n++) {
                StringBuilder text = new StringBuilder();
                for (int rest = n, i = 0; i < length; i++, rest /= bytes.length()) {
                    text.append(bytes.charAt(rest % bytes.length()));
                }
                dueAsThePatternSays(text.toString());
            }
            count *= bytes.length();
        }
    }

    private static void dueAsThePatternSays(String text) {
        NumeralTexts x = empty();
        typeText(x, text);
        int answer = x.read();
        if (TEXT.matcher(text).matches()) {
            String numeral = text.trim();
            boolean with16 = numeral.matches(".*[xX].*");
            boolean real = numeral.matches(with16 ? ".*[.pP].*" : ".*[.eE].*");
            if (real) {
                double d = Double.parseDouble(with16 && !numeral.matches(".*[pP].*") ? numeral + "p0" : numeral);
                boolean infinite = Double.isInfinite(d);
                long[] parts = infinite ? new long[] {0, 0} : realOf(Math.abs(d));
                due("read " + shown(text), answer, infinite ? (d > 0 ? 3 : 4) : 2);
                due("number of " + shown(text), x.number(), d < 0 ? -parts[0] : parts[0]);
                due("exponent of " + shown(text), x.exponent(), (int) parts[1]);
            } else {
                due("read " + shown(text), answer, 1);
                due("number of " + shown(text), x.number(), Long.decode(numeral.replaceAll("^([+-]?)0+(?=[0-9])", "$1")));
            }
            return;
        }
        int place = 0;
        while (place < text.length() && goesOn(text.substring(0, place + 1))) {
            place++;
        }
        due("read " + shown(text), answer, -100 - place);
        due("kind after " + shown(text), x.kind(), 1);
    }

    private static boolean goesOn(String start) {
        Matcher matcher = TEXT.matcher(start);
        return matcher.matches() || matcher.hitEnd();
    }

    private static void wholeWith16() {
        sentence("Promise 3", "A numeral with 16 that has neither . nor p is the whole number that its digits make, "
            + "wrapping modulo 2^64.");
        dueRead("0x0", 1, 0, 0);
        dueRead("0x7fffffffffffffff", 1, MOST, 0);
        dueRead("0x8000000000000000", 1, LEAST, 0);
        dueRead("0xffffffffffffffff", 1, -1, 0);
        dueRead("0x10000000000000000", 1, 0, 0);
        dueRead("0x10000000000000001", 1, 1, 0);
        dueRead("0xf123456789abcdef0", 1, 0x123456789abcdef0L, 0);
        dueRead("0x" + "f".repeat(1198), 1, -1, 0);
        dueRead("0x" + "0".repeat(1197) + "1", 1, 1, 0);
        dueRead("0x1" + "0".repeat(1197), 1, 0, 0);
        dueRead("0xffffffffffffffff.", 2, 1, 64);
        dueRead("0xffffffffffffffffp0", 2, 1, 64);
        dueRead("0x.ffffffffffffffff", 2, 1, 0);
        dueRead("0x1" + "0".repeat(255) + "p0", 2, 1, 1020);
        dueRead("0x1" + "0".repeat(256) + "p0", 3, 0, 0);
    }

    private static void wholeWith10() {
        sentence("Promise 3",
            "A numeral with neither ., e nor 0x is a whole number, if its digits make one below 2^63.");
        dueRead("9223372036854775806", 1, MOST - 1, 0);
        dueRead("9223372036854775807", 1, MOST, 0);
        dueRead("9223372036854775808", 2, 1, 63);
        dueRead("9223372036854775809", 2, 1, 63);
        dueRead("9223372036854775810", 2, 1, 63);
        dueRead("9223372036854777000", 2, 4503599627370497L, 11);
        dueRead("10000000000000000000", 2, 19073486328125L, 19);
        dueRead("92233720368547758070", 2, 5L, 64);
        dueRead("18446744073709551615", 2, 1, 64);
        dueRead("18446744073709551616", 2, 1, 64);
        dueRead("0".repeat(1181) + "9223372036854775807", 1, MOST, 0);
        dueRead("0".repeat(1181) + "9223372036854775808", 2, 1, 63);
        dueRead("0".repeat(1200), 1, 0, 0);
        dueRead("9".repeat(308), 2, realOf(1e308)[0], (int) realOf(1e308)[1]);
        dueRead("9".repeat(309), 3, 0, 0);
        dueRead("9".repeat(1200), 3, 0, 0);
        dueRead("5.", 2, 5, 0);
        dueRead("5e0", 2, 5, 0);
    }

    private static void anyOther() {
        sentence("Promise 3", "Any other is the nearest of what it says: its digits, times 10 (with 16: 2) to the power "
            + "that stands behind e (p);");
        dueBothSigns("1e308", 2, realOf(1e308)[0], (int) realOf(1e308)[1]);
        dueBothSigns("1e309", 3, 0, 0);
        dueBothSigns("1e310", 3, 0, 0);
        dueBothSigns("1e-323", 2, 1, -1073);
        dueBothSigns("3e-324", 2, 1, -1074);
        dueBothSigns("2e-324", 2, 0, 0);
        dueBothSigns("1e-324", 2, 0, 0);
        dueBothSigns("0x1p1023", 2, 1, 1023);
        dueBothSigns("0x1p1024", 3, 0, 0);
        dueBothSigns("0x1p-1074", 2, 1, -1074);
        dueBothSigns("0x1p-1075", 2, 0, 0);
        dueBothSigns("0x1.0001p-1075", 2, 1, -1074);
        dueBothSigns("1e0", 2, 1, 0);
        dueBothSigns("1e-0", 2, 1, 0);
        dueBothSigns("1e" + "0".repeat(1100) + "2", 2, 25, 2);
        dueBothSigns("1e-" + "0".repeat(1100) + "2", 2, realOf(0.01)[0], (int) realOf(0.01)[1]);
        for (String great : new String[] {"99999", "100000", "2147483647", "2147483648", "4294967295", "4294967296",
                "9223372036854775808", "18446744073709551616", "9".repeat(1190)}) {
            dueBothSigns("1e" + great, 3, 0, 0);
            dueBothSigns("1e+" + great, 3, 0, 0);
            dueBothSigns("1e-" + great, 2, 0, 0);
            dueBothSigns("0e" + great, 2, 0, 0);
            dueBothSigns("0x1p" + great, 3, 0, 0);
            dueBothSigns("0x1p+" + great, 3, 0, 0);
            dueBothSigns("0x1p-" + great, 2, 0, 0);
            dueBothSigns("0x0p" + great, 2, 0, 0);
        }
        dueBothSigns("1" + "0".repeat(1190) + "e-1190", 2, 1, 0);
        dueBothSigns("1" + "0".repeat(1190) + "e-0882", 2, realOf(1e308)[0], (int) realOf(1e308)[1]);
        dueBothSigns("1" + "0".repeat(1190) + "e-0881", 3, 0, 0);
        dueBothSigns("1" + "0".repeat(1190) + "e-1514", 2, 0, 0);
        dueBothSigns("1" + "0".repeat(1190) + "e-1513", 2, 1, -1073);
        dueBothSigns("0x1" + "0".repeat(1180) + "p-4720", 2, 1, 0);
        dueBothSigns("0x1" + "0".repeat(1180) + "p-3697", 2, 1, 1023);
        dueBothSigns("0x1" + "0".repeat(1180) + "p-3696", 3, 0, 0);
        dueBothSigns("0x1" + "0".repeat(1180) + "p-5794", 2, 1, -1074);
        dueBothSigns("0x1" + "0".repeat(1180) + "p-5795", 2, 0, 0);
    }

    private static void digitBehindThePoint() {
        sentence("Promise 3", "a digit behind the point counts a 10th (a 16th) of one before it.");
        dueBothSigns("1.5", 2, 3, -1);
        dueBothSigns("0.5", 2, 1, -1);
        dueBothSigns("0.05e1", 2, 1, -1);
        dueBothSigns("10.e-1", 2, 1, 0);
        dueBothSigns("0x1.8", 2, 3, -1);
        dueBothSigns("0x.1", 2, 1, -4);
        dueBothSigns("0x.01", 2, 1, -8);
        dueBothSigns("0x10.p-4", 2, 1, 0);
        dueBothSigns("." + "0".repeat(1192) + "1e1193", 2, 1, 0);
        dueBothSigns("." + "0".repeat(1192) + "1e1501", 2, realOf(1e308)[0], (int) realOf(1e308)[1]);
        dueBothSigns("." + "0".repeat(1192) + "1e1502", 3, 0, 0);
        dueBothSigns("." + "0".repeat(1192) + "1e0870", 2, 1, -1073);
        dueBothSigns("." + "0".repeat(1192) + "1e0869", 2, 0, 0);
        dueBothSigns("0x." + "0".repeat(1180) + "1p4724", 2, 1, 0);
        dueBothSigns("0x." + "0".repeat(1180) + "1p5747", 2, 1, 1023);
        dueBothSigns("0x." + "0".repeat(1180) + "1p5748", 3, 0, 0);
        dueBothSigns("0x." + "0".repeat(1180) + "1p3650", 2, 1, -1074);
        dueBothSigns("0x." + "0".repeat(1180) + "1p3649", 2, 0, 0);
        dueBothSigns("0." + "0".repeat(1197), 2, 0, 0);
    }

    private static void withMinus() {
        sentence("Promise 3", "With -, a whole number is taken from 0 (wrapping), a real has the other sign.");
        dueRead("-1", 1, -1, 0);
        dueRead("-9223372036854775807", 1, -MOST, 0);
        dueRead("-0x1", 1, -1, 0);
        dueRead("-0x7fffffffffffffff", 1, -MOST, 0);
        dueRead("-0x8000000000000000", 1, LEAST, 0);
        dueRead("-0x8000000000000001", 1, MOST, 0);
        dueRead("-0xffffffffffffffff", 1, 1, 0);
        dueRead("-0x10000000000000000", 1, 0, 0);
        dueRead("-1.", 2, -1, 0);
        dueRead("-0x1p0", 2, -1, 0);
        dueRead("-1e309", 4, 0, 0);
    }

    private static void minusAndTwo63() {
        sentence("Promise 3", "(So - and the digits of 2^63 are a real; -0 is 0.)");
        dueRead("-9223372036854775808", 2, -1, 63);
        dueRead("-9223372036854775807", 1, -MOST, 0);
        dueRead("-0", 1, 0, 0);
        dueRead("-000", 1, 0, 0);
        dueRead("-0x0", 1, 0, 0);
        duePlain(ofText("-0"), "0");
        duePlain(ofText("-0.0"), "0.0");
    }

    // ---- Terms: PLAIN

    private static void termsOfPlain() {
        plainWhole();
        plainReal();
        plainOthers();
    }

    private static void plainWhole() {
        sentence("Promise 10", "PLAIN: a whole number by its digits, - before it when it is less than 0;");
        duePlain(ofWhole(0), "0");
        duePlain(ofWhole(-1), "-1");
        duePlain(ofWhole(1), "1");
        duePlain(ofWhole(9), "9");
        duePlain(ofWhole(10), "10");
        duePlain(ofWhole(-10), "-10");
        duePlain(ofWhole(100000000000000L), "100000000000000");
        duePlain(ofWhole(MOST), "9223372036854775807");
        duePlain(ofWhole(-MOST), "-9223372036854775807");
        duePlain(ofWhole(LEAST), "-9223372036854775808");
    }

    private static void plainReal() {
        sentence("Promise 10",
            "a real likewise as by form g with 14 digits, and .0 behind it if no point, no e is in that;");
        duePlain(ofReal(0, 0), "0.0");
        duePlain(ofReal(1, 0), "1.0");
        duePlain(ofReal(-1, 0), "-1.0");
        duePlain(ofReal(-1, -1), "-0.5");
        duePlain(ofText("99999999999999.0"), "99999999999999.0");
        duePlain(ofText("100000000000000.0"), "1e+14");
        duePlain(ofText("10000000000000.5"), "10000000000000.0");
        duePlain(ofText("10000000000001.5"), "10000000000002.0");
        duePlain(ofText("99999999999998.5"), "99999999999998.0");
        duePlain(ofText("99999999999999.5"), "1e+14");
        duePlain(ofText("1234567890123.25"), "1234567890123.2");
        duePlain(ofText("1234567890123.75"), "1234567890123.8");
        duePlain(ofText("0.0001"), "0.0001");
        duePlain(ofText("0.00009"), "9e-05");
        duePlain(ofText("-0.00015"), "-0.00015");
        duePlain(ofText("-0.000015"), "-1.5e-05");
        duePlain(ofText("0.1"), "0.1");
        duePlain(ofText("1e100"), "1e+100");
        duePlain(ofText("-1.5e100"), "-1.5e+100");
        duePlain(ofReal(1, -1074), "4.9406564584125e-324");
        duePlain(ofReal(TWO53 - 1, 971), "1.7976931348623e+308");
    }

    private static void plainOthers() {
        sentence("Promise 10", "inf, -inf, nan.");
        duePlain(ofSpecial(3), "inf");
        duePlain(ofSpecial(4), "-inf");
        duePlain(ofSpecial(5), "nan");
        duePlain(ofText("1e309"), "inf");
        duePlain(ofReal(-1, 1024), "-inf");
    }

    // ---- Terms: d, x, X, o

    private static void termsOfFormsOfWholes() {
        lettersOfForms();
        flagsWidthsPrecisions();
        digitsOfWholes();
        asManyAsThePrecision();
        noneForZero();
        sharpOfWholes();
    }

    private static void lettersOfForms() {
        sentence("Promise 11", "FORMS are d, x, X, o (whole numbers) and e, E, f, F, g, G, a, A (reals),");
        String[] wants = {"10", "a", "A", "12", "1.000000e+01", "1.000000E+01", "10.000000", "10.000000", "10", "10",
            "0x1.4p+3", "0X1.4P+3"};
        for (int i = 0; i < LETTERS.length(); i++) {
            dueForms(10, "" + LETTERS.charAt(i), wants[i]);
            dueForms(10, 0, "" + LETTERS.charAt(i), wants[i]);
        }
        for (char letter : "bcDhHiIOpPuUwWyYzZsn@`0 \0".toCharArray()) {
            due("letter " + letter, ofWhole(10).form(letter, 0, 0, -1), BAD);
            due("letter " + letter + " of a real", ofReal(10, 0).form(letter, 0, 0, -1), BAD);
        }
    }

    private static void flagsWidthsPrecisions() {
        sentence("Promise 11", "with FLAGS (a sum of 1 for -, 2 for +, 4 for a blank, 8 for #, 16 for 0), "
            + "a WIDTH 0 .. 99 and a PRECISION 0 .. 99, or none.");
        String[] wants = {"   7", "7   ", "  +7", "+7  ", "   7", " 7  ", "  +7", "+7  "};
        for (int flags = 0; flags < 32; flags++) {
            String want = wants[flags & 7];
            if ((flags & 17) == 16) {
                want = (flags & 2) != 0 ? "+007" : (flags & 4) != 0 ? " 007" : "0007";
            }
            NumeralTexts x = ofWhole(7);
            due("flags " + flags, x.form('d', flags, 4, -1), 4);
            due("flags " + flags, page(x), want);
        }
        dueForms(7, 0, "#.0f", "7.", ".0f", "7");
        dueForms(7, "0d", "7", "1d", "7", "2d", " 7", "99d", " ".repeat(98) + "7", "-99d", "7" + " ".repeat(98));
        dueForms(7, ".0d", "7", ".1d", "7", ".2d", "07", ".99d", "0".repeat(98) + "7", "99.99d", "0".repeat(98) + "7");
        dueForms(-7, ".99d", "-" + "0".repeat(98) + "7", "99.99d", "-" + "0".repeat(98) + "7");
    }

    private static void digitsOfWholes() {
        sentence("Promise 11", "d: the digits; x, X, o: those of the number, or that plus 2^64 when it is less than 0, "
            + "with 16 (small or great letters) or 8;");
        dueForms(0, "d", "0", "x", "0", "X", "0", "o", "0");
        dueForms(1, "d", "1", "x", "1", "X", "1", "o", "1");
        dueForms(7, "o", "7");
        dueForms(8, "o", "10");
        dueForms(9, "x", "9");
        dueForms(10, "x", "a", "X", "A");
        dueForms(15, "x", "f", "X", "F");
        dueForms(16, "x", "10", "X", "10");
        dueForms(0xabcdefL, "x", "abcdef", "X", "ABCDEF");
        dueForms(-1, "d", "-1", "x", "f".repeat(16), "X", "F".repeat(16), "o", "1" + "7".repeat(21));
        dueForms(LEAST, "d", "-9223372036854775808", "x", "8" + "0".repeat(15), "o", "1" + "0".repeat(21));
        dueForms(LEAST + 1, "d", "-9223372036854775807", "x", "8" + "0".repeat(14) + "1");
        dueForms(MOST, "d", "9223372036854775807", "x", "7" + "f".repeat(15), "o", "7".repeat(21));
    }

    private static void asManyAsThePrecision() {
        sentence("Promise 11", "at least as many digits as the precision says (1 when none is), with 0s before;");
        dueForms(123, ".0d", "123", ".2d", "123", ".3d", "123", ".4d", "0123", "d", "123");
        dueForms(-123, ".3d", "-123", ".4d", "-0123", "6.4d", " -0123");
        dueForms(255, ".1x", "ff", ".2x", "ff", ".3x", "0ff", ".3X", "0FF", ".3o", "377", ".4o", "0377");
        dueForms(-1, ".16x", "f".repeat(16), ".17x", "0" + "f".repeat(16), ".99o", "0".repeat(77) + "1" + "7".repeat(21));
        dueForms(0, "d", "0", ".1d", "0", ".2d", "00", ".99x", "0".repeat(99));
        dueForms(LEAST, ".19d", "-9223372036854775808", ".20d", "-09223372036854775808");
    }

    private static void noneForZero() {
        sentence("Promise 11", "none at all for 0 with precision 0.");
        for (char letter : LETTERS_OF_WHOLES.toCharArray()) {
            dueForms(0, ".0" + letter, "", "3.0" + letter, "   ", "-3.0" + letter, "   ", "03.0" + letter, "   ");
            dueForms(0, ".1" + letter, "0", "" + letter, "0");
            dueForms(1, ".0" + letter, "1");
        }
        dueForms(0, "+.0d", "+", " .0d", " ", "+3.0d", "  +", "-+3.0d", "+  ");
        dueForms(0, 0, ".0d", "", ".1d", "0");
    }

    private static void sharpOfWholes() {
        sentence("Promise 11", "#: 0x (0X) before digits of x (X) when the number is not 0; a 0 before those of o, "
            + "if they do not begin with one.");
        dueForms(0, "#x", "0", "#X", "0", "#.0x", "", "#.0X", "", "#.3x", "000", "#5x", "    0");
        dueForms(1, "#x", "0x1", "#X", "0X1", "#.0x", "0x1", "#.3x", "0x001", "#5x", "  0x1", "#05X", "0X001");
        dueForms(-1, "#x", "0x" + "f".repeat(16), "#X", "0X" + "F".repeat(16));
        dueForms(0, "#o", "0", "#.0o", "0", "#.1o", "0", "#.2o", "00", "#3o", "  0", "#3.0o", "  0", "#03o", "000");
        dueForms(8, "#o", "010", "#.0o", "010", "#.2o", "010", "#.3o", "010", "#.4o", "0010", "#5o", "  010");
        dueForms(8, "#05o", "00010", "-#5o", "010  ");
        dueForms(-1, "#o", "01" + "7".repeat(21), "#.22o", "01" + "7".repeat(21), "#.23o", "01" + "7".repeat(21));
        dueForms(5, "#d", "5", "#.0d", "5");
        dueForms(0, "#.0d", "");
    }

    // ---- Terms: f, e, g

    private static void termsOfFormsOfReals() {
        formF();
        formE();
        formEPower();
        formG();
        formGWithout0s();
        pointLeftOut();
    }

    private static void formF() {
        sentence("Promise 11", "f, F: digits, a point, and as many digits as the precision says (6 when none is), of the "
            + "nearest such decimal number (of two the one with the even last digit).");
        for (char letter : "fF".toCharArray()) {
            dueForms("0.5", ".0" + letter, "0", ".1" + letter, "0.5");
            dueForms("1.5", ".0" + letter, "2");
            dueForms("-2.5", ".0" + letter, "-2");
            dueForms("-3.5", ".0" + letter, "-4", "" + letter, "-3.500000");
        }
        dueForms("0x1.0000000000001p-1", ".0f", "1");
        dueForms("0x1.fffffffffffffp-2", ".0f", "0");
        dueForms("0.125", ".2f", "0.12", ".3f", "0.125", ".4f", "0.1250");
        dueForms("0.375", ".2f", "0.38");
        dueForms("0.25", ".1f", "0.2");
        dueForms("0.75", ".1f", "0.8");
        dueForms("9.5", ".0f", "10");
        dueForms("8.5", ".0f", "8");
        dueForms("99.96875", ".1f", "100.0", ".2f", "99.97", ".4f", "99.9688", ".5f", "99.96875");
        dueForms("999999999.5", ".0f", "1000000000");
        dueForms("0.0000005", "f", "0.000000");
        dueForms("0.00000051", "f", "0.000001");
        dueForms("0.1", ".55f", "0.1000000000000000055511151231257827021181583404541015625",
            ".54f", "0.100000000000000005551115123125782702118158340454101562");
        dueForms("1e22", ".0f", "10000000000000000000000");
        dueForms("1e23", ".0f", "99999999999999991611392");
        dueForms(0, 0, ".0f", "0", "f", "0.000000", ".99f", "0." + "0".repeat(99));
        dueForms(1, -1074, ".0f", "0", ".99f", "0." + "0".repeat(99));
        dueForms(-1, -1074, ".99f", "-0." + "0".repeat(99));
        dueForms(1, -99, ".99f", new BigDecimal(0x1p-99).toPlainString());
        dueForms(1, -100, ".99f", new BigDecimal(0x1p-100).toPlainString().substring(0, 100) + "2");
        BigInteger most = BigInteger.valueOf(TWO53 - 1).shiftLeft(971);
        dueForms(TWO53 - 1, 971, ".0f", most.toString(), ".99f", most + "." + "0".repeat(99));
        dueForms(1 - TWO53, 971, "#.0f", "-" + most + ".", ".99f", "-" + most + "." + "0".repeat(99));
    }

    private static void formE() {
        sentence("Promise 11", "e, E: one digit (other than 0, but for 0), a point, and as many digits, e (E), the sign of "
            + "the power of 10 and at least two digits of it; rounded likewise.");
        dueForms(0, 0, "e", "0.000000e+00", ".0E", "0E+00", ".99e", "0." + "0".repeat(99) + "e+00");
        dueForms("1.0", "e", "1.000000e+00", ".0e", "1e+00", ".1E", "1.0E+00");
        dueForms("0.5", ".0e", "5e-01");
        dueForms("2.5", ".0e", "2e+00");
        dueForms("3.5", ".0e", "4e+00");
        dueForms("9.5", ".0e", "1e+01");
        dueForms("8.5", ".0e", "8e+00");
        dueForms("12.5", ".1e", "1.2e+01");
        dueForms("13.5", ".1e", "1.4e+01");
        dueForms("99.5", ".1e", "1.0e+02", ".2e", "9.95e+01");
        dueForms("0.96875", ".0e", "1e+00", ".1e", "9.7e-01", ".3e", "9.688e-01", ".4e", "9.6875e-01");
        dueForms("-9.96875", ".1e", "-1.0e+01");
        dueForms("1234567.5", ".6e", "1.234568e+06");
        dueForms("1234566.5", ".6e", "1.234566e+06");
        dueForms("0x1.0000000000001p1", ".0e", "2e+00");
        dueForms("0x1.4000000000001p1", ".0e", "3e+00");
        dueForms("250.0", ".0e", "2e+02");
        dueForms("251.0", ".0e", "3e+02");
        dueForms("249.0", ".0e", "2e+02");
        dueForms("350.0", ".0e", "4e+02");
        dueForms("25000000000.0", ".0e", "2e+10");
        dueForms("25000000001.0", ".0e", "3e+10");
        dueForms("24999999999.0", ".0e", "2e+10");
        dueForms("25000000000000000000.0", ".0e", "2e+19");
        dueForms("25000000512000000000.0", ".0e", "3e+19");
        dueForms(1, -1074, ".0e", "5e-324", ".1e", "4.9e-324",
            ".98e", digitsOf(new BigDecimal(Double.MIN_VALUE), 98), ".99e", digitsOf(new BigDecimal(Double.MIN_VALUE), 99));
        dueForms(TWO53 - 1, 971, ".0e", "2e+308", ".15e", "1.797693134862316e+308",
            ".16e", "1.7976931348623157e+308", ".99e", digitsOf(new BigDecimal(Double.MAX_VALUE), 99));
    }

    private static String digitsOf(BigDecimal exact, int behind) {
        BigDecimal rounded = exact.round(new java.math.MathContext(behind + 1, java.math.RoundingMode.HALF_EVEN));
        String digits = rounded.unscaledValue().toString();
        int power = digits.length() - 1 - rounded.scale();
        return digits.charAt(0) + "." + digits.substring(1) + "0".repeat(behind + 1 - digits.length())
            + (power < 0 ? "e-" : "e+") + Math.abs(power);
    }

    private static void formEPower() {
        sentence("Promise 11", "the sign of the power of 10 and at least two digits of it;");
        for (int power = -323; power <= 308; power++) {
            String want = (power < 0 ? "e-" : "e+") + (Math.abs(power) < 10 ? "0" : "") + Math.abs(power);
            dueForms("1e" + power, ".0e", "1" + want);
        }
        dueForms("1e9", ".0E", "1E+09");
        dueForms("1e10", ".0E", "1E+10");
        dueForms("1e99", ".0E", "1E+99");
        dueForms("1e100", ".0E", "1E+100");
        dueForms("1e-9", ".0E", "1E-09");
        dueForms("1e-10", ".0E", "1E-10");
        dueForms("1e-99", ".0E", "1E-99");
        dueForms("1e-100", ".0E", "1E-100");
    }

    private static void formG() {
        sentence("Promise 11", "g, G: with P for the precision (6 when none is; 1 for 0), and X the power that e with "
            + "P - 1 digits would have: as f with P - 1 - X digits behind the point if -4 <= X < P, else as e with P - 1;");
        dueForms("0.0001", "g", "0.0001", "#g", "0.000100000", ".0g", "0.0001", ".1g", "0.0001");
        dueForms("0.00001", "g", "1e-05", "G", "1E-05", "#g", "1.00000e-05", "#.1g", "1.e-05");
        dueForms("0.00012345", ".3g", "0.000123", ".99g", new BigDecimal(0.00012345).toPlainString());
        dueForms("0.000012345", ".3g", "1.23e-05");
        dueForms("0.0000999999", "g", "9.99999e-05");
        dueForms("0.0000999999996", "g", "0.0001", "#g", "0.000100000");
        dueForms("100000.0", "g", "100000", "#g", "100000.");
        dueForms("1000000.0", "g", "1e+06", "#g", "1.00000e+06");
        dueForms("999999.0", "g", "999999");
        dueForms("999999.5", "g", "1e+06", ".7g", "999999.5");
        dueForms("999998.5", "g", "999998");
        dueForms("9.0", ".0g", "9", ".1g", "9");
        dueForms("10.0", ".0g", "1e+01", ".1g", "1e+01", ".2g", "10");
        dueForms("9.5", ".0g", "1e+01", ".1g", "1e+01", ".2g", "9.5");
        dueForms("8.5", ".0g", "8", ".1g", "8");
        dueForms("2.5", ".0g", "2", ".1g", "2", ".2g", "2.5");
        dueForms(1, 325, ".98g", power2(325).toString(), ".97g", digitsOf(new BigDecimal(power2(325)), 96));
        dueForms(1, 328, ".99g", power2(328).toString(), ".98g", digitsOf(new BigDecimal(power2(328)), 97));
        dueForms(1, 329, ".99g", digitsOf(new BigDecimal(power2(329)), 98));
        dueForms(0, 0, "g", "0", "#g", "0.00000", ".0g", "0", "#.0g", "0.", ".99g", "0", "#.99g", "0." + "0".repeat(98));
        dueForms(-1, 0, "g", "-1", "#g", "-1.00000", "#.99g", "-1." + "0".repeat(98));
        dueForms(1, -1074, "g", "4.94066e-324", ".1G", "5E-324");
        dueForms(TWO53 - 1, 971, "g", "1.79769e+308", ".1g", "2e+308");
    }

    private static void formGWithout0s() {
        sentence("Promise 11", "but then, without #, 0s at the end behind the point go, and the point if it is last.");
        dueForms("1.5", "g", "1.5", "#g", "1.50000", ".2g", "1.5", ".3g", "1.5", "#.3g", "1.50", "#.2g", "1.5");
        dueForms("100.0", "g", "100", "#g", "100.000", ".3g", "100", "#.3g", "100.");
        dueForms("100.5", ".4g", "100.5", ".5g", "100.5", "#.5g", "100.50", ".3g", "100", "#.3g", "100.");
        dueForms("1.0", "g", "1", "#g", "1.00000", "#.1g", "1.");
        dueForms("1e10", "g", "1e+10", "#g", "1.00000e+10", "#.1g", "1.e+10");
        dueForms("1.05e10", "g", "1.05e+10", "#g", "1.05000e+10", ".3g", "1.05e+10", ".2g", "1e+10");
        dueForms("1.5e-10", "G", "1.5E-10", "#G", "1.50000E-10");
        dueForms("10.0", "g", "10", "#g", "10.0000");
        dueForms("0.5", "08g", "000000.5", "-8g", "0.5     ", "8g", "     0.5");
    }

    private static void pointLeftOut() {
        sentence("Promise 11", "The point is left out where no digit is behind it, but with #.");
        dueForms("2.0", ".0f", "2", "#.0f", "2.", ".1f", "2.0", "#.1f", "2.0", "#F", "2.000000", "#.0F", "2.");
        dueForms("2.0", ".0e", "2e+00", "#.0e", "2.e+00", ".1e", "2.0e+00", "#.1e", "2.0e+00", "#.0E", "2.E+00");
        dueForms("2.0", "g", "2", "#.1g", "2.", "#.0G", "2.");
        dueForms("2.0", "a", "0x1p+1", "#a", "0x1.p+1", ".0a", "0x1p+1", "#.0a", "0x1.p+1", ".1a", "0x1.0p+1");
        dueForms("2.0", "#.1a", "0x1.0p+1", "#A", "0X1.P+1");
        dueForms(0, 0, "#.0f", "0.", "#.0e", "0.e+00", "#.0g", "0.", "#a", "0x0.p+0");
    }

    // ---- Terms: a

    private static void termsOfFormA() {
        formADigits();
        formAFirstDigit();
        formALetters();
        formARounded();
        formAPoint();
    }

    private static void formALetters() {
        sentence("Promise 11", "digits are small or great letters;");
        dueForms(0x1234567L, 0, "a", "0x1.234567p+24", "A", "0X1.234567P+24");
        dueForms(0x189abcdefL, 0, "a", "0x1.89abcdefp+32", "A", "0X1.89ABCDEFP+32");
        dueForms(0x189abcdefL, 0, ".3a", "0x1.89bp+32", ".3A", "0X1.89BP+32", ".9A", "0X1.89ABCDEF0P+32");
    }

    private static void formAPoint() {
        sentence("Promise 11", "The point as above.");
        dueForms(1, 0, "a", "0x1p+0", "#a", "0x1.p+0", ".0a", "0x1p+0", "#.0a", "0x1.p+0", ".1a", "0x1.0p+0");
        dueForms(3, -1, "a", "0x1.8p+0", "#a", "0x1.8p+0", ".0A", "0X2P+0", "#.0A", "0X2.P+0");
        dueForms(0, 0, "a", "0x0p+0", "#a", "0x0.p+0", "#.0A", "0X0.P+0");
    }

    private static void formADigits() {
        sentence("Promise 11", "a, A: 0x (0X), one digit, a point, as many digits with 16 as the precision says "
            + "(when none is: as many as are needed), p (P), the sign of the power of 2 and its digits:");
        dueForms(1, 0, "a", "0x1p+0", "A", "0X1P+0", ".0a", "0x1p+0", ".1a", "0x1.0p+0");
        dueForms(3, -1, "a", "0x1.8p+0", ".1a", "0x1.8p+0", ".2a", "0x1.80p+0");
        dueForms(0x1ab, 0, "a", "0x1.abp+8", "A", "0X1.ABP+8");
        dueForms(TWO53 - 1, -52, "a", "0x1." + "f".repeat(13) + "p+0", ".13a", "0x1." + "f".repeat(13) + "p+0",
            ".14a", "0x1." + "f".repeat(13) + "0p+0", ".99A", "0X1." + "F".repeat(13) + "0".repeat(86) + "P+0");
        dueForms((1L << 52) + 1, -52, "a", "0x1.0000000000001p+0");
        dueForms((1L << 51) + 1, -51, "a", "0x1.0000000000002p+0");
        dueForms((1L << 48) + 1, -48, "a", "0x1.000000000001p+0");
        dueForms(1, 9, "a", "0x1p+9");
        dueForms(1, 10, "a", "0x1p+10");
        dueForms(1, -1, "a", "0x1p-1");
        dueForms(1, -9, "a", "0x1p-9");
        dueForms(1, -10, "a", "0x1p-10");
        dueForms(1, 99, "a", "0x1p+99");
        dueForms(1, 1000, "a", "0x1p+1000");
        dueForms(1, 1023, "a", "0x1p+1023");
        dueForms(1 - TWO53, 971, "a", "-0x1." + "f".repeat(13) + "p+1023");
    }

    private static void formAFirstDigit() {
        sentence("Promise 11", "the first digit is 1 and the power from -1022 on, or the digit is 0 and the power -1022 "
            + "(for 0 itself: 0);");
        dueForms(1, -1021, "a", "0x1p-1021");
        dueForms(1, -1022, "a", "0x1p-1022");
        dueForms((1L << 52) + 1, -1074, "a", "0x1.0000000000001p-1022");
        dueForms((1L << 52) - 1, -1074, "a", "0x0." + "f".repeat(13) + "p-1022");
        dueForms(1, -1023, "a", "0x0.8p-1022", ".1a", "0x0.8p-1022", ".2A", "0X0.80P-1022");
        dueForms(1, -1074, "a", "0x0.0000000000001p-1022", ".13a", "0x0.0000000000001p-1022",
            ".14a", "0x0.00000000000010p-1022");
        dueForms(-1, -1074, "a", "-0x0.0000000000001p-1022");
        dueForms(0, 0, "a", "0x0p+0", ".0A", "0X0P+0", ".2a", "0x0.00p+0", "#.0a", "0x0.p+0");
    }

    private static void formARounded() {
        sentence("Promise 11", "with a precision the digits are those of the nearest such number, of two of the even one "
            + "(the first digit may be one more by that, 2 at most).");
        dueForms(5, -2, ".0a", "0x1p+0");
        dueForms(3, -1, ".0a", "0x2p+0");
        dueForms(7, -2, ".0a", "0x2p+0");
        dueForms((1L << 52) * 3 / 2 - 1, -52, ".0a", "0x1p+0");
        dueForms((1L << 52) * 3 / 2 + 1, -52, ".0a", "0x2p+0");
        dueForms(TWO53 - 1, -52, ".0a", "0x2p+0", ".1a", "0x2.0p+0", ".12a", "0x2." + "0".repeat(12) + "p+0",
            "#.0A", "0X2.P+0");
        dueForms(TWO53 - 1, 971, ".0a", "0x2p+1023", ".12a", "0x2." + "0".repeat(12) + "p+1023");
        dueForms(0x108, -8, ".1a", "0x1.0p+0");
        dueForms(0x109, -8, ".1a", "0x1.1p+0");
        dueForms(0x107, -8, ".1a", "0x1.0p+0");
        dueForms(0x118, -8, ".1a", "0x1.2p+0");
        dueForms(0x128, -8, ".1a", "0x1.2p+0");
        dueForms(0x198, -8, ".1a", "0x1.ap+0", ".1A", "0X1.AP+0");
        dueForms(0x1f8, -8, ".1a", "0x2.0p+0");
        dueForms(0x1e8, -8, ".1a", "0x1.ep+0");
        dueForms((1L << 52) + 8, -52, ".12a", "0x1.000000000000p+0");
        dueForms((1L << 52) + 24, -52, ".12a", "0x1.000000000002p+0");
        dueForms((1L << 52) + 9, -52, ".12a", "0x1.000000000001p+0");
        dueForms(1, -1023, ".0a", "0x0p-1022");
        dueForms(3, -1024, ".0a", "0x1p-1022");
        dueForms((1L << 51) + 1, -1074, ".0a", "0x1p-1022");
        dueForms(1, -1074, ".0a", "0x0p-1022", ".12a", "0x0.000000000000p-1022");
        dueForms((1L << 52) - 1, -1074, ".0a", "0x1p-1022", ".12a", "0x1.000000000000p-1022");
    }

    // ---- Terms: inf, nan, signs, widths

    private static void termsOfSignsAndWidths() {
        wordsWithoutFlag16();
        signsOfWords();
        signs();
        widths();
        zerosInWidths();
    }

    private static void wordsWithoutFlag16() {
        sentence("Promise 11", "inf and nan (great letters for E, F, G, A) stand for what is no real, and flag 16 is not "
            + "looked at then.");
        for (char letter : LETTERS_OF_REALS.toCharArray()) {
            boolean great = letter < 'a';
            String inf = great ? "INF" : "inf";
            String nan = great ? "NAN" : "nan";
            for (String precision : new String[] {"", ".0", ".9"}) {
                String form = precision + letter;
                dueForm(ofSpecial(3), form, inf);
                dueForm(ofSpecial(4), form, "-" + inf);
                dueForm(ofSpecial(5), form, nan);
                dueForm(ofSpecial(3), "06" + form, "   " + inf);
                dueForm(ofSpecial(4), "06" + form, "  -" + inf);
                dueForm(ofSpecial(5), "06" + form, "   " + nan);
                dueForm(ofSpecial(5), "-06" + form, nan + "   ");
                dueForm(ofSpecial(3), "#" + form, inf);
                dueForm(ofSpecial(3), "03" + form, inf);
                dueForm(ofSpecial(4), "04" + form, "-" + inf);
                dueForm(ofSpecial(4), "05" + form, " -" + inf);
            }
        }
    }

    private static void signsOfWords() {
        sentence("Promise 11", "(Signs are, also before nan, which is not less than 0.)");
        for (char letter : LETTERS_OF_REALS.toCharArray()) {
            boolean great = letter < 'a';
            String inf = great ? "INF" : "inf";
            String nan = great ? "NAN" : "nan";
            dueForm(ofSpecial(3), "+" + letter, "+" + inf);
            dueForm(ofSpecial(4), "+" + letter, "-" + inf);
            dueForm(ofSpecial(5), "+" + letter, "+" + nan);
            dueForm(ofSpecial(3), " " + letter, " " + inf);
            dueForm(ofSpecial(4), " " + letter, "-" + inf);
            dueForm(ofSpecial(5), " " + letter, " " + nan);
            dueForm(ofSpecial(5), "+ 06" + letter, "  +" + nan);
            dueForm(ofSpecial(5), "-+6" + letter, "+" + nan + "  ");
        }
    }

    private static void signs() {
        sentence("Promise 11", "Before it - when the number is less than 0 (for d, e, f, g, a and the great ones, and "
            + "-inf), else + with flag 2, else a blank with flag 4 (x, X, o have no sign).");
        dueForms(0, "d", "0", "+d", "+0", " d", " 0", "+ d", "+0");
        dueForms(-1, "d", "-1", "+d", "-1", " d", "-1", "+ d", "-1");
        String[] ones = {"1e+00", "1E+00", "1", "1", "1", "1", "0x1p+0", "0X1P+0"};
        String[] zeros = {"0e+00", "0E+00", "0", "0", "0", "0", "0x0p+0", "0X0P+0"};
        for (int i = 0; i < LETTERS_OF_REALS.length(); i++) {
            String form = ".0" + LETTERS_OF_REALS.charAt(i);
            dueForms(1, 0, form, ones[i], "+" + form, "+" + ones[i], " " + form, " " + ones[i], "+ " + form, "+" + ones[i]);
            dueForms(-1, 0, form, "-" + ones[i], "+" + form, "-" + ones[i], " " + form, "-" + ones[i]);
            dueForms(0, 0, form, zeros[i], "+" + form, "+" + zeros[i], " " + form, " " + zeros[i]);
        }
        for (char letter : "xXo".toCharArray()) {
            dueForms(1, "+" + letter, "1", " " + letter, "1", "+ 3" + letter, "  1", "+03" + letter, "001");
            dueForms(-1, "+ " + letter, letter == 'o' ? "1" + "7".repeat(21) : (letter == 'x' ? "f" : "F").repeat(16));
        }
        dueForms("-0.001", ".2f", "-0.00", ".0f", "-0");
        dueForms(-1, -1074, ".0f", "-0", ".0a", "-0x0p-1022");
    }

    private static void widths() {
        sentence("Promise 11", "If all is shorter than the width: with flag 1 blanks come behind it;");
        dueForms(-12, "2d", "-12", "3d", "-12", "4d", " -12", "-3d", "-12", "-4d", "-12 ", "-04d", "-12 ");
        dueForms(-12, "99d", " ".repeat(96) + "-12", "-99d", "-12" + " ".repeat(96), "-099d", "-12" + " ".repeat(96));
        dueForms(255, "#3x", "0xff", "#4x", "0xff", "#5x", " 0xff", "-#5x", "0xff ", "-#05x", "0xff ");
        dueForms("-1.5", "3.1f", "-1.5", "4.1f", "-1.5", "5.1f", " -1.5", "-5.1f", "-1.5 ", "-05.1f", "-1.5 ");
        dueForms("-1.5", "8.1e", "-1.5e+00", "9.1e", " -1.5e+00", "-9.1e", "-1.5e+00 ", "-09.1e", "-1.5e+00 ");
        dueForms("-1.5", "9a", "-0x1.8p+0", "10a", " -0x1.8p+0", "-10a", "-0x1.8p+0 ", "-010a", "-0x1.8p+0 ");
        dueForms("-1.5", "4g", "-1.5", "5g", " -1.5", "-5g", "-1.5 ", "99g", " ".repeat(95) + "-1.5");
        dueForm(ofSpecial(4), "4f", "-inf");
        dueForm(ofSpecial(4), "5f", " -inf");
        dueForm(ofSpecial(4), "-5f", "-inf ");
    }

    private static void zerosInWidths() {
        sentence("Promise 11", "else with flag 16 0s behind the sign and 0x (for whole numbers only when there is no "
            + "precision); else blanks before it.");
        dueForms(-12, "03d", "-12", "04d", "-012", "099d", "-" + "0".repeat(96) + "12");
        dueForms(12, "+04d", "+012", " 04d", " 012", "04d", "0012");
        dueForms(-12, "05.0d", "  -12", "05.2d", "  -12", "05.3d", " -012", "05.4d", "-0012");
        dueForms(255, "#04x", "0xff", "#05x", "0x0ff", "#06X", "0X00FF", "#06.2x", "  0xff", "06.0x", "    ff");
        dueForms(255, "06o", "000377", "#06o", "000377", "06.3o", "   377", "#06.3o", "  0377");
        dueForms(0, "03d", "000", "#03x", "000", "03.1d", "  0");
        dueForms("-1.5", "06.1f", "-001.5", "06.1F", "-001.5", "06g", "-001.5", "010.1e", "-001.5e+00");
        dueForms("-1.5", "012a", "-0x0001.8p+0", "012.1A", "-0X0001.8P+0", "010a", "-0x01.8p+0", "09a", "-0x1.8p+0");
        dueForms("1.5", "+06.1f", "+001.5", " 06.1f", " 001.5", "06.1f", "0001.5", "+010a", "+0x01.8p+0");
        dueForms("1.5", "099.1f", "0".repeat(96) + "1.5");
        dueForms(-3, "06.1f", "-003.0", "07.2f", "-003.00");
        dueForms(-3, 0, "06d", "-00003", "06.1d", "    -3");
    }

    // ---- Promises 1 to 3

    private static void promises1To3() {
        newObject();
        typedBytes();
        typeBad();
        typeFull();
        readKinds();
        readAfterRead();
        readWrong();
        emptyAfterWrong();
    }

    private static void newObject() {
        sentence("Promise 1", "An empty tape; the value is the whole number 0; nothing is written.");
        due("type", empty().type('7', 1), 1);
        due("read", empty().read(), -100);
        dueValue("new", empty(), 1, 0, 0);
        duePlain(empty(), "0");
        dueForm(empty(), ".0f", "0");
        dueShortest(empty(), "0e+00");
        due("written(0)", empty().written(0), BAD);
        due("written(-1)", empty().written(-1), BAD);
        due("written(1)", empty().written(1), BAD);
    }

    private static void typedBytes() {
        sentence("Promise 2", "The lowest n bytes of bytes, the highest of them first, come behind the tape: its length.");
        for (int n = 1; n <= 8; n++) {
            NumeralTexts x = empty();
            due("type n " + n, x.type(0x31_32_33_34_35_36_37_38L, n), n);
            due("type n " + n + " again", x.type(0x39_39_39_39_39_39_39_39L, 1), n + 1);
            due("read n " + n, x.read(), 1);
            due("number n " + n, x.number(), Long.parseLong("12345678".substring(8 - n) + "9"));
        }
        for (int b = 128; b < 256; b++) {
            NumeralTexts x = empty();
            due("type of byte " + b, x.type((long) b << 56 | 0x31_31_31_31_31_31_31L, 8), 8);
            due("read of byte " + b, x.read(), -100);
            due("type of byte " + b + " last", x.type(0x31_31_31_31_31_31_31_00L | b, 8), 8);
            due("read of byte " + b + " last", x.read(), -107);
        }
        NumeralTexts x = empty();
        due("all bits above", x.type(-1L << 8 | '4', 1), 1);
        due("all bits above", x.type(-1L << 16 | 0x3532, 2), 3);
        due("read", x.read(), 1);
        due("number", x.number(), 452L);
        due("eight bytes of 255", x.type(-1, 8), 8);
        due("read", x.read(), -100);
        due("a byte 0", x.type(0x3100, 2), 2);
        due("read", x.read(), -101);
    }

    private static void typeBad() {
        sentence("Promise 2", "BAD when n is not 1 .. 8;");
        NumeralTexts x = empty();
        due("n 1", x.type('1', 1), 1);
        for (int n : new int[] {0, 9, -1, -8, 16, 64, 257, 264, Integer.MIN_VALUE, Integer.MAX_VALUE}) {
            due("n " + n, x.type(0x32_32_32_32_32_32_32_32L, n), BAD);
        }
        due("n 8", x.type(0x33_33_33_33_33_33_33_33L, 8), 9);
        due("read", x.read(), 1);
        due("number", x.number(), 133333333L);
        NumeralTexts y = empty();
        typeText(y, "5" + " ".repeat(1199));
        due("n 0 on a full tape", y.type('1', 0), BAD);
        due("n -1 on a full tape", y.type('1', -1), BAD);
        due("read", y.read(), 1);
    }

    private static void typeFull() {
        sentence("Promise 2", "FULL when there would be more than 1200.");
        for (int n = 1; n <= 8; n++) {
            NumeralTexts x = empty();
            int free = 1200 - n;
            due("tape", typeText(x, " ".repeat(free - 1) + "4"), free);
            if (n < 8) {
                due("n " + (n + 1) + " with room for " + n, x.type(0x35_35_35_35_35_35_35_35L, n + 1), FULL);
            }
            due("n " + n + " with room for " + n, x.type(0x36_36_36_36_36_36_36_36L, n), 1200);
            due("n 1 on a full tape", x.type('7', 1), FULL);
            due("n 8 on a full tape", x.type(0x37_37_37_37_37_37_37_37L, 8), FULL);
            due("read", x.read(), 1);
            due("number", x.number(), Long.parseLong("4" + "6".repeat(n)));
            due("type after that", x.type('8', 1), 1);
        }
    }

    private static void readKinds() {
        sentence("Promise 3", "The tape is read as a text of a number, and is empty then: that is the value: its kind: "
            + "1 whole, 2 real, 3 plus and 4 minus infinity.");
        dueRead("5", 1, 5, 0);
        dueRead("5.", 2, 5, 0);
        dueRead("1e999", 3, 0, 0);
        dueRead("-1e999", 4, 0, 0);
        for (int kind = 1; kind <= 5; kind++) {
            NumeralTexts x = ofKind(kind);
            typeText(x, "-25e-1");
            due("read", x.read(), 2);
            dueValue("read after kind " + kind, x, 2, -5, -1);
            due("read again", x.read(), -100);
            dueValue("read again", x, 2, -5, -1);
            due("a tape of 1200 again", typeText(x, "0".repeat(1199) + "3"), 1200);
            due("read", x.read(), 1);
            dueValue("read the third", x, 1, 3, 0);
        }
        NumeralTexts y = ofWhole(12);
        y.plain();
        typeText(y, "34");
        y.read();
        due("what was written stays", page(y), "12");
    }

    /** Nothing of one text is left over in the next, whatever both are. */
    private static void readAfterRead() {
        sentence("Promise 3", "The tape is read as a text of a number, and is empty then: that is the value:");
        String[] texts = {"", "7", "-0", "12.5", ".0625", "-3e2", "5e-3", "1e999", "-1e999", "1e-999", "0e9", "0.0",
            "-9223372036854775808", "9".repeat(300), "0." + "0".repeat(300) + "9", "-0xff", "0x.8", "0x1p-3", "0x1p9999",
            "-0x1p-9999", "0x" + "f".repeat(40) + "p0", "12x", ".", "1.5e", "-", "0x1.8p+", " -8 "};
        for (String first : texts) {
            for (String second : texts) {
                NumeralTexts x = ofText(first);
                NumeralTexts y = ofText(second);
                boolean isWrong = y.kind() == 1 && y.number() == 0 && !second.equals("-0");
                NumeralTexts want = isWrong ? ofText(first) : y;
                typeText(x, second);
                due(shown(second) + " read after " + shown(first), x.read() < 0, isWrong);
                dueValue(shown(second) + " after " + shown(first), x, want.kind(), want.number(), want.exponent());
            }
        }
    }

    private static void readWrong() {
        sentence("Promise 3", "-100 - the place when it is wrong: then the value stays.");
        for (int kind = 1; kind <= 5; kind++) {
            NumeralTexts x = ofKind(kind);
            due("read of nothing", x.read(), -100);
            dueKind("read of nothing", x, kind);
            typeText(x, "1x");
            due("read of 1x", x.read(), -101);
            dueKind("read of 1x", x, kind);
            typeText(x, "1".repeat(1199) + "e");
            due("read of 1200 wrong bytes", x.read(), -1300);
            dueKind("read of 1200 wrong bytes", x, kind);
            typeText(x, " ".repeat(1199) + "x");
            due("read of 1200 wrong bytes", x.read(), -1299);
            dueKind("read of 1200 wrong bytes", x, kind);
        }
    }

    private static void emptyAfterWrong() {
        sentence("Promise 3", "(The tape is empty then, too.)");
        NumeralTexts x = empty();
        typeText(x, "12x");
        due("read", x.read(), -102);
        due("read again", x.read(), -100);
        typeText(x, "x".repeat(1200));
        due("read", x.read(), -100);
        due("type", typeText(x, "0".repeat(1199) + "3"), 1200);
        due("read", x.read(), 1);
        due("number", x.number(), 3L);
    }

    // ---- Promises 4 to 9

    private static void promises4To9() {
        whole();
        real();
        realBad();
        special();
        notSpecial();
        kind();
        number();
        exponent();
    }

    private static void whole() {
        sentence("Promise 4", "The value is a whole number.");
        for (int kind = 1; kind <= 5; kind++) {
            for (long v : new long[] {LEAST, -1, 0, 1, MOST}) {
                NumeralTexts x = ofKind(kind);
                x.whole(v);
                dueValue("whole(" + v + ")", x, 1, v, 0);
            }
        }
    }

    private static void real() {
        sentence("Promise 5", "The value is the nearest of m * 2^e: its kind (2 .. 4).");
        dueReal(0, 0, 2, 0, 0);
        dueReal(0, 1200, 2, 0, 0);
        dueReal(0, -1200, 2, 0, 0);
        dueRealBothSigns(1, 1200, 3, 0, 0);
        dueRealBothSigns(1, -1200, 2, 0, 0);
        dueRealBothSigns(TWO53, 1200, 3, 0, 0);
        dueRealBothSigns(TWO53, -1200, 2, 0, 0);
        dueRealBothSigns(TWO53, -1127, 2, 1, -1074);
        dueRealBothSigns(TWO53, -1128, 2, 0, 0);
        dueRealBothSigns(TWO53 - 1, -1074, 2, TWO53 - 1, -1074);
        dueRealBothSigns(TWO53 - 1, -1076, 2, 1, -1023);
        dueRealBothSigns(1, -1074, 2, 1, -1074);
        dueRealBothSigns(2, -1075, 2, 1, -1074);
        dueRealBothSigns(3, -1076, 2, 1, -1074);
        dueRealBothSigns(5, -1076, 2, 1, -1074);
        dueRealBothSigns(6, -1076, 2, 1, -1073);
        dueRealBothSigns(1, 1023, 2, 1, 1023);
        dueRealBothSigns(1, 1024, 3, 0, 0);
        for (int kind = 1; kind <= 5; kind++) {
            NumeralTexts x = ofKind(kind);
            due("real(12, 0) after kind " + kind, x.real(12, 0), 2);
            dueValue("real(12, 0) after kind " + kind, x, 2, 3, 2);
        }
    }

    private static void realBad() {
        sentence("Promise 5", "BAD when m is not -2^53 .. 2^53, or e not -1200 .. 1200.");
        for (long m : new long[] {TWO53, -TWO53}) {
            due("real(" + m + ", 1200)", empty().real(m, 1200), m > 0 ? 3 : 4);
            due("real(" + m + ", -1200)", empty().real(m, -1200), 2);
        }
        for (int kind = 1; kind <= 5; kind++) {
            NumeralTexts x = ofKind(kind);
            for (long m : new long[] {TWO53 + 1, -TWO53 - 1, 2 * TWO53, MOST, LEAST, 1L << 54, 1L << 62}) {
                due("real(" + m + ", 0)", x.real(m, 0), BAD);
                due("real(" + m + ", 1201)", x.real(m, 1201), BAD);
            }
            for (int e : new int[] {1201, -1201, 65536, Integer.MAX_VALUE, Integer.MIN_VALUE}) {
                due("real(0, " + e + ")", x.real(0, e), BAD);
                due("real(1, " + e + ")", x.real(1, e), BAD);
            }
            dueKind("bad calls of real", x, kind);
        }
    }

    private static void special() {
        sentence("Promise 6", "The value is plus infinity (3), minus infinity (4) or the no-number (5): true;");
        for (int before = 1; before <= 5; before++) {
            for (int kind = 3; kind <= 5; kind++) {
                NumeralTexts x = ofKind(before);
                due("special(" + kind + ")", x.special(kind), true);
                dueValue("special(" + kind + ")", x, kind, 0, 0);
                duePlain(x, kind == 3 ? "inf" : kind == 4 ? "-inf" : "nan");
            }
        }
    }

    private static void notSpecial() {
        sentence("Promise 6", "false for another kind.");
        for (int before = 1; before <= 5; before++) {
            for (int kind : new int[] {2, 6, 1, 0, -1, -3, 7, 259, Integer.MIN_VALUE, Integer.MAX_VALUE}) {
                NumeralTexts x = ofKind(before);
                due("special(" + kind + ")", x.special(kind), false);
                dueKind("special(" + kind + ")", x, before);
            }
        }
    }

    private static void kind() {
        sentence("Promise 7", "The kind of the value, 1 .. 5.");
        for (int kind = 1; kind <= 5; kind++) {
            due("kind()", ofKind(kind).kind(), kind);
        }
        due("kind() of 2^63 - 1", ofText("9223372036854775807").kind(), 1);
        due("kind() of 2^63", ofText("9223372036854775808").kind(), 2);
        due("kind() of the greatest real", ofReal(TWO53 - 1, 971).kind(), 2);
        due("kind() of more", ofReal(TWO53, 971).kind(), 3);
        due("kind() of less", ofReal(-TWO53, 971).kind(), 4);
    }

    private static void number() {
        sentence("Promise 8", "The whole number; of a real its m, when it is written with the greatest e (0 for 0); "
            + "0 of others.");
        due("number() of -2^63", ofWhole(LEAST).number(), LEAST);
        due("number() of 2^63 - 1", ofWhole(MOST).number(), MOST);
        due("number() of 8", ofWhole(8).number(), 8L);
        due("number() of 8.0", ofReal(8, 0).number(), 1L);
        due("number() of 7.0", ofReal(7, 0).number(), 7L);
        due("number() of 2.0^53", ofReal(TWO53, 0).number(), 1L);
        due("number() of -2.0^53", ofReal(-TWO53, 0).number(), -1L);
        due("number() of 2.0^53 - 1", ofReal(TWO53 - 1, 0).number(), TWO53 - 1);
        due("number() of 0.0", ofReal(0, 5).number(), 0L);
        for (int kind = 3; kind <= 5; kind++) {
            NumeralTexts x = ofWhole(9);
            x.special(kind);
            due("number() of kind " + kind, x.number(), 0L);
        }
    }

    private static void exponent() {
        sentence("Promise 9", "Of a real other than 0: the greatest e; 0 of others.");
        due("exponent() of 8", ofWhole(8).exponent(), 0);
        due("exponent() of 8.0", ofReal(8, 0).exponent(), 3);
        due("exponent() of 7.0", ofReal(7, 0).exponent(), 0);
        due("exponent() of 2.0^53", ofReal(TWO53, 0).exponent(), 53);
        due("exponent() of the least real", ofReal(1, -1074).exponent(), -1074);
        due("exponent() of the greatest real", ofReal(TWO53 - 1, 971).exponent(), 971);
        due("exponent() of 0.0", ofReal(0, 5).exponent(), 0);
        due("exponent() of 0.0", ofText("0e5").exponent(), 0);
        for (int kind = 3; kind <= 5; kind++) {
            NumeralTexts x = ofReal(3, 9);
            x.special(kind);
            due("exponent() of kind " + kind, x.exponent(), 0);
        }
        NumeralTexts y = ofReal(3, 9);
        y.whole(3);
        due("exponent() of a whole number after a real", y.exponent(), 0);
    }

    // ---- Promises 10 and 11

    private static void promises10And11() {
        plainBytes();
        writtenAfterWritten();
        wholeAsReal();
        realAsWhole();
        valueStays();
        noPrecision();
        formBad();
        writtenStays();
    }

    private static void plainBytes() {
        sentence("Promise 10", "The value is written PLAIN: how many bytes.");
        due("plain() of 0", empty().plain(), 1);
        due("plain() of -2^63", ofWhole(LEAST).plain(), 20);
        due("plain() of the longest real", ofText("-1.2345678901234e-300").plain(), 21);
        for (int kind = 1; kind <= 5; kind++) {
            NumeralTexts x = ofKind(kind);
            duePlain(x, new String[] {"-6", "-0.625", "inf", "-inf", "nan"}[kind - 1]);
            dueKind("plain()", x, kind);
        }
    }

    /** Nothing of one text is left over in the next, whatever both are. */
    private static void writtenAfterWritten() {
        sentence("Promise 11", "The value is written by a FORM");
        String[] values = {"0", "-1", "255", "9223372036854775807", "0.0", "-0.5", "1e300", "-5e-324", "1e999"};
        String[] forms = {"d", "#x", "+.5o", ".0f", "-99.3e", "099.20g", "#A", "99.99f", "plain", "shortest"};
        for (String firstValue : values) {
            for (String secondValue : values) {
                for (String first : forms) {
                    for (String second : forms) {
                        dueWrittenAfter(firstValue, first, secondValue, second);
                    }
                }
            }
        }
    }

    private static void dueWrittenAfter(String firstValue, String first, String secondValue, String second) {
        NumeralTexts x = ofText(firstValue);
        write(x, first);
        typeText(x, secondValue);
        x.read();
        NumeralTexts fresh = ofText(secondValue);
        int want = write(fresh, second);
        String what = second + " of " + secondValue + " after " + first + " of " + firstValue;
        due(what, write(x, second), want);
        if (want != BAD) {
            due(what, page(x), page(fresh));
        }
    }

    private static int write(NumeralTexts x, String how) {
        return how.equals("plain") ? x.plain() : how.equals("shortest") ? x.shortest() : callForm(x, how);
    }

    private static void wholeAsReal() {
        sentence("Promise 11", "(a whole number in a form of reals as the nearest real;");
        dueForms(0, "f", "0.000000", "e", "0.000000e+00", "g", "0", "a", "0x0p+0");
        dueForms(TWO53 - 1, ".0f", "9007199254740991");
        dueForms(TWO53, ".0f", "9007199254740992");
        dueForms(TWO53 + 1, ".0f", "9007199254740992");
        dueForms(TWO53 + 2, ".0f", "9007199254740994");
        dueForms(TWO53 + 3, ".0f", "9007199254740996");
        dueForms(-TWO53 - 1, ".0f", "-9007199254740992");
        dueForms(MOST, ".0f", "9223372036854775808", "a", "0x1p+63");
        dueForms(MOST - 511, ".0f", "9223372036854775808");
        dueForms(MOST - 512, ".0f", "9223372036854774784", "a", "0x1.fffffffffffffp+62");
        dueForms(LEAST, ".0f", "-9223372036854775808", "a", "-0x1p+63");
        dueForms(LEAST + 1, ".0f", "-9223372036854775808");
        dueForms(LEAST + 512, ".0f", "-9223372036854775808");
        dueForms(LEAST + 513, ".0f", "-9223372036854774784");
    }

    private static void realAsWhole() {
        sentence("Promise 11", "a real in a form of whole numbers as that, if it is one of 64 bits);");
        dueForms(0, 0, "d", "0", "x", "0", "X", "0", "o", "0");
        dueForms(1, 0, "d", "1", "#x", "0x1");
        dueForms(-1, 0, "d", "-1", "x", "f".repeat(16), "o", "1" + "7".repeat(21));
        dueForms(1, 62, "d", "4611686018427387904");
        dueForms(TWO53 - 1, 10, "d", "9223372036854774784", "x", "7ffffffffffffc00", "o", "777777777777777776000");
        dueForms(1 - TWO53, 10, "d", "-9223372036854774784", "x", "8000000000000400");
        dueForms(-1, 63, "d", "-9223372036854775808", "x", "8" + "0".repeat(15), "#o", "01" + "0".repeat(21));
        NumeralTexts[] others = {ofReal(1, 63), ofReal((1L << 52) + 1, 11), ofReal(-(1L << 52) - 1, 11), ofReal(-1, 64),
            ofReal(1, 64), ofReal(3, 62), ofReal(-3, 62), ofReal(1, 1023), ofReal(-1, 1023), ofReal(1, -1), ofReal(-1, -1),
            ofReal(3, -1), ofReal(TWO53 - 1, -1), ofReal(1, -1074), ofSpecial(3), ofSpecial(4), ofSpecial(5)};
        for (NumeralTexts x : others) {
            for (char letter : LETTERS_OF_WHOLES.toCharArray()) {
                due("form " + letter + " of no whole number", x.form(letter, 0, 0, -1), BAD);
                due("form " + letter + " of no whole number", x.form(letter, 31, 99, 0), BAD);
            }
            due("written", x.written(0), BAD);
        }
    }

    private static void valueStays() {
        sentence("Promise 11", "(the value itself stays)");
        for (int kind = 1; kind <= 5; kind++) {
            for (char letter : LETTERS.toCharArray()) {
                NumeralTexts x = ofKind(kind);
                x.form(letter, 0, 0, 0);
                dueKind("form " + letter, x, kind);
            }
        }
        NumeralTexts x = ofWhole(TWO53 + 1);
        x.form('f', 0, 0, 0);
        dueValue("form f", x, 1, TWO53 + 1, 0);
        NumeralTexts y = ofReal(-1, 63);
        y.form('d', 0, 0, 0);
        dueValue("form d", y, 2, -1, 63);
    }

    private static void noPrecision() {
        sentence("Promise 11", "precision is -1 for none: how many bytes.");
        int[] none = {1, 1, 1, 1, 12, 12, 8, 8, 1, 1, 6, 6};
        int[] zero = {1, 1, 1, 1, 5, 5, 1, 1, 1, 1, 6, 6};
        for (int i = 0; i < LETTERS.length(); i++) {
            due("precision -1, form " + LETTERS.charAt(i), ofWhole(1).form(LETTERS.charAt(i), 0, 0, -1), none[i]);
            due("precision 0, form " + LETTERS.charAt(i), ofWhole(1).form(LETTERS.charAt(i), 0, 0, 0), zero[i]);
            due("width 99, form " + LETTERS.charAt(i), ofWhole(1).form(LETTERS.charAt(i), 0, 99, -1), 99);
        }
        due("0 with precision -1", empty().form('d', 0, 0, -1), 1);
        due("0 with precision 0", empty().form('d', 0, 0, 0), 0);
        due("the longest", ofReal(1 - TWO53, 971).form('f', 31, 99, 99), 410);
    }

    private static void formBad() {
        sentence("Promise 11", "BAD when there is no such letter, flags are not 0 .. 31, width not 0 .. 99, precision not "
            + "-1 .. 99, or it is no such whole number");
        for (int letter = 0; letter < 65536; letter++) {
            boolean known = LETTERS.indexOf(letter) >= 0;
            if (!known && (letter < 1024 || letter % 256 < 128)) {
                due("letter " + letter, empty().form((char) letter, 0, 0, -1), BAD);
            }
        }
        for (char letter : LETTERS.toCharArray()) {
            NumeralTexts x = ofWhole(1);
            for (int flags : new int[] {-1, 32, 33, 48, 64, Integer.MIN_VALUE, Integer.MAX_VALUE}) {
                due("flags " + flags + ", form " + letter, x.form(letter, flags, 0, -1), BAD);
            }
            for (int width : new int[] {-1, 100, 256, Integer.MIN_VALUE, Integer.MAX_VALUE}) {
                due("width " + width + ", form " + letter, x.form(letter, 0, width, -1), BAD);
            }
            for (int precision : new int[] {-2, 100, 256, Integer.MIN_VALUE, Integer.MAX_VALUE}) {
                due("precision " + precision + ", form " + letter, x.form(letter, 0, 0, precision), BAD);
            }
            due("nothing written", x.written(0), BAD);
            due("flags 0, form " + letter, ofWhole(1).form(letter, 0, 99, -1), 99);
            due("flags 31, form " + letter, ofWhole(1).form(letter, 31, 99, -1), 99);
            due("width 0, form " + letter, ofWhole(1).form(letter, 0, 0, -1) > 0, true);
            due("precision -1, form " + letter, ofWhole(1).form(letter, 0, 99, -1), 99);
            due("precision 99, form " + letter, ofWhole(1).form(letter, 0, 0, 99) > 0, true);
            due("a real, form " + letter, ofReal(1, 0).form(letter, 0, 99, -1), 99);
            int half = LETTERS_OF_WHOLES.indexOf(letter) >= 0 ? BAD : 99;
            due("no whole number, form " + letter, ofReal(1, -1).form(letter, 0, 99, -1), half);
            due("no-number, form " + letter, ofSpecial(5).form(letter, 0, 99, -1), half);
        }
    }

    private static void writtenStays() {
        sentence("Promise 11", "(what was written stays then).");
        for (char letter : LETTERS.toCharArray()) {
            NumeralTexts x = ofWhole(-705);
            due("plain()", x.plain(), 4);
            x.form(letter, 32, 0, -1);
            x.form(letter, -1, 0, -1);
            x.form(letter, 0, 100, -1);
            x.form(letter, 0, -1, -1);
            x.form(letter, 0, 0, 100);
            x.form(letter, 0, 0, -2);
            due("written after bad calls of form " + letter, page(x), "-705");
            x.form((char) (letter + 256), 0, 0, -1);
            x.form('i', 0, 0, -1);
            due("written after wrong letters", page(x), "-705");
        }
        for (int kind = 2; kind <= 5; kind++) {
            NumeralTexts x = ofWhole(-705);
            x.plain();
            due("value", kind == 2 ? x.real(1, -1) == 2 : x.special(kind), true);
            for (char letter : LETTERS_OF_WHOLES.toCharArray()) {
                due("form " + letter + " of kind " + kind, x.form(letter, 0, 9, 3), BAD);
            }
            due("written after forms of no whole number", page(x), "-705");
        }
    }

    // ---- Promises 12 and 13

    private static void promises12And13() {
        shortest();
        shortestBad();
        written();
        writtenBad();
    }

    private static void shortest() {
        sentence("Promise 12", "The value, a real or whole number (as a real), is written by form e with the least "
            + "precision with which it is read back as the same: how many digits it has in all (1 .. 17).");
        dueShortest(ofWhole(0), "0e+00");
        dueShortest(ofReal(0, 0), "0e+00");
        dueShortest(ofWhole(-1), "-1e+00");
        dueShortest(ofWhole(10), "1e+01");
        dueShortest(ofWhole(TWO53), "9.007199254740992e+15");
        dueShortest(ofWhole(TWO53 + 1), "9.007199254740992e+15");
        dueShortest(ofWhole(TWO53 + 3), "9.007199254740996e+15");
        dueShortest(ofWhole(MOST), "9.223372036854776e+18");
        dueShortest(ofWhole(LEAST), "-9.223372036854776e+18");
        dueShortest(ofReal(1, -1074), "5e-324");
        dueShortest(ofReal(-1, -1074), "-5e-324");
        dueShortest(ofReal(1, -1073), "1e-323");
        dueShortest(ofReal(3, -1074), "1.5e-323");
        dueShortest(ofReal((1L << 52) - 1, -1074), "2.225073858507201e-308");
        dueShortest(ofReal(1, -1022), "2.2250738585072014e-308");
        dueShortest(ofReal(TWO53 - 1, 971), "1.7976931348623157e+308");
        dueShortest(ofReal(1 - TWO53, 971), "-1.7976931348623157e+308");
        dueShortest(ofReal(TWO53 - 2, 971), "1.7976931348623155e+308");
        dueShortest(ofText("0.1"), "1e-01");
        dueShortest(ofText("0.30000000000000004"), "3.0000000000000004e-01");
        dueShortest(ofText("1e23"), "1e+23");
        dueShortest(ofText("9.5"), "9.5e+00");
        dueShortest(ofText("5e-322"), "5e-322");
        for (int digits = 1; digits <= 17; digits++) {
            String text = "1.2345678912345674".substring(0, digits == 1 ? 1 : digits + 1);
            dueShortest(ofText(text + "e0"), text + "e+00");
        }
        for (int power = -323; power <= 308; power++) {
            String want = (power < 0 ? "e-" : "e+") + (Math.abs(power) < 10 ? "0" : "") + Math.abs(power);
            dueShortest(ofText("1e" + power), "1" + want);
        }
        NumeralTexts x = ofWhole(TWO53 + 1);
        x.shortest();
        dueValue("shortest()", x, 1, TWO53 + 1, 0);
    }

    private static void shortestBad() {
        sentence("Promise 12", "BAD for others.");
        for (int kind = 1; kind <= 5; kind++) {
            due("shortest() of kind " + kind, ofKind(kind).shortest(), kind == 1 ? 1 : kind == 2 ? 3 : BAD);
            NumeralTexts x = ofKind(kind);
            x.shortest();
            dueKind("shortest()", x, kind);
        }
        due("shortest() of the greatest real", ofReal(TWO53 - 1, 971).shortest(), 17);
        due("shortest() of more", ofReal(TWO53, 971).shortest(), BAD);
        due("shortest() of less", ofReal(-TWO53, 971).shortest(), BAD);
    }

    private static void written() {
        sentence("Promise 13", "Byte i of what was written;");
        NumeralTexts x = ofWhole(-70);
        due("plain()", x.plain(), 3);
        due("written(0)", x.written(0), (int) '-');
        due("written(1)", x.written(1), (int) '7');
        due("written(2)", x.written(2), (int) '0');
        due("written(0) again", x.written(0), (int) '-');
        x.form('x', 0, 0, -1);
        due("after form x", page(x), "ffffffffffffffba");
        x.shortest();
        due("after shortest", page(x), "-7e+01");
        x.whole(5);
        typeText(x, "6");
        x.read();
        x.special(3);
        x.real(1, 1);
        due("after other values", page(x), "-7e+01");
    }

    private static void writtenBad() {
        sentence("Promise 13", "BAD when there is none such.");
        NumeralTexts x = ofWhole(-70);
        due("written(0) before all", x.written(0), BAD);
        x.plain();
        for (int i : new int[] {-1, 3, 4, 98, 419, 420, 1200, Integer.MIN_VALUE, Integer.MAX_VALUE}) {
            due("written(" + i + ")", x.written(i), BAD);
        }
        x.form('d', 0, 99, -1);
        due("written(98)", x.written(98), (int) '0');
        due("written(99)", x.written(99), BAD);
        x.plain();
        due("written(2) of a shorter text", x.written(2), (int) '0');
        due("written(3) of a shorter text", x.written(3), BAD);
        x.whole(0);
        due("no byte", x.form('d', 0, 0, 0), 0);
        due("written(0) of no byte", x.written(0), BAD);
        NumeralTexts y = ofReal(1 - TWO53, 971);
        due("the longest", y.form('f', 0, 0, 99), 410);
        due("its last byte", y.written(409), (int) '0');
        due("behind it", y.written(410), BAD);
    }
}
