import java.math.BigDecimal;
import java.math.BigInteger;
import java.util.Arrays;

/** Each promise of the document with ordinary inputs, the edges that it names, and wrong inputs. */
public final class PromiseTest {
    private static int wrong = 0;

    public static void main(String[] args) {
        newObject();
        typing();
        readingWholes();
        readingReals();
        readingWrongTexts();
        wholeNumbers();
        reals();
        specials();
        kindsNumbersExponents();
        plainTexts();
        formsOfWholes();
        formF();
        formE();
        formG();
        formA();
        formsOfNoReals();
        formsAcrossKinds();
        wrongForms();
        shortestTexts();
        writtenBytes();
        System.out.println(wrong == 0 ? "all promises hold" : wrong + " answers are not as due");
        if (wrong != 0) {
            System.exit(1);
        }
    }

    private static void due(String what, Object got, Object want) {
        if (!want.equals(got)) {
            wrong++;
            System.out.println(what + " answered " + got + ", due is " + want);
        }
    }

    /** Eight bytes a call: an object has 512 calls. */
    private static void typeText(NumeralTexts x, String text) {
        for (int from = 0; from < text.length(); from += 8) {
            int to = Math.min(text.length(), from + 8);
            long bytes = 0;
            for (int i = from; i < to; i++) {
                bytes = bytes << 8 | text.charAt(i);
            }
            x.type(bytes, to - from);
        }
    }

    private static int readText(NumeralTexts x, String text) {
        typeText(x, text);
        return x.read();
    }

    private static String page(NumeralTexts x) {
        StringBuilder text = new StringBuilder();
        int b = x.written(0);
        for (int i = 1; b != NumeralTexts.BAD && i < 450; i++) {
            text.append((char) b);
            b = x.written(i);
        }
        return text.toString();
    }

    private static void dueValue(String what, NumeralTexts x, int kind, long number, int exponent) {
        due("kind after " + what, x.kind(), kind);
        due("number after " + what, x.number(), number);
        due("exponent after " + what, x.exponent(), exponent);
    }

    private static void dueRead(String text, int kind, long number, int exponent) {
        NumeralTexts x = new NumeralTexts();
        due("read of " + text, readText(x, text), kind);
        dueValue(text, x, kind, number, exponent);
    }

    private static void dueWrong(String text, int place) {
        NumeralTexts x = new NumeralTexts();
        x.real(-3, 7);
        due("read of '" + text + "'", readText(x, text), -100 - place);
        dueValue("wrong '" + text + "'", x, 2, -3, 7);
        due("the tape after wrong '" + text + "'", x.type('1', 1), 1);
    }

    private static void dueForm(NumeralTexts x, String form, String want) {
        int at = 0;
        int flags = 0;
        while ("-+ #0".indexOf(form.charAt(at)) >= 0) {
            flags |= 1 << "-+ #0".indexOf(form.charAt(at));
            at++;
        }
        char letter = form.charAt(form.length() - 1);
        String[] parts = form.substring(at, form.length() - 1).split("\\.", -1);
        int width = parts[0].isEmpty() ? 0 : Integer.parseInt(parts[0]);
        int precision = parts.length < 2 ? -1 : Integer.parseInt(parts[1]);
        due("bytes of form " + form, x.form(letter, flags, width, precision), want.length());
        due("form " + form, page(x), want);
    }

    private static NumeralTexts ofText(String text) {
        NumeralTexts x = new NumeralTexts();
        readText(x, text);
        return x;
    }

    private static NumeralTexts ofWhole(long v) {
        NumeralTexts x = new NumeralTexts();
        x.whole(v);
        return x;
    }

    private static NumeralTexts ofReal(long m, int e) {
        NumeralTexts x = new NumeralTexts();
        x.real(m, e);
        return x;
    }

    private static NumeralTexts ofSpecial(int kind) {
        NumeralTexts x = new NumeralTexts();
        x.special(kind);
        return x;
    }

    private static void newObject() {
        NumeralTexts x = new NumeralTexts();
        dueValue("new", x, 1, 0, 0);
        due("nothing written", x.written(0), NumeralTexts.BAD);
        due("the new tape", x.type(0, 1), 1);
        due("the new tape read", new NumeralTexts().read(), -100);
    }

    private static void typing() {
        NumeralTexts x = new NumeralTexts();
        due("n 0", x.type(49, 0), NumeralTexts.BAD);
        due("n 9", x.type(49, 9), NumeralTexts.BAD);
        due("n -1", x.type(49, -1), NumeralTexts.BAD);
        due("n least", x.type(49, Integer.MIN_VALUE), NumeralTexts.BAD);
        due("three bytes", x.type(0x7777777777_31_32_33L, 3), 3);
        due("eight bytes", x.type(0x34_35_36_37_38_39_30_31L, 8), 11);
        due("their reading", x.read(), 1);
        due("their order", x.number(), 12345678901L);
        for (int i = 1; i <= 149; i++) {
            due("filling", x.type(0x2020202020202020L, 8), 8 * i);
        }
        due("seven more", x.type(0x20202020202020L, 7), 1199);
        due("two too many", x.type(0x3132L, 2), NumeralTexts.FULL);
        due("eight too many", x.type(0x3132L, 8), NumeralTexts.FULL);
        due("bad before full", x.type(0x3132L, 9), NumeralTexts.BAD);
        due("the last", x.type(0x37L, 1), 1200);
        due("one too many", x.type(0x38L, 1), NumeralTexts.FULL);
        due("a full tape", x.read(), 1);
        due("what full left out", x.number(), 7L);
        due("empty after reading", x.type(0x38L, 1), 1);
    }

    private static void readingWholes() {
        dueRead("0", 1, 0, 0);
        dueRead("-0", 1, 0, 0);
        dueRead(" \t\n\u000b\f\r+0012 \t\n\u000b\f\r", 1, 12, 0);
        dueRead("-9223372036854775807", 1, -9223372036854775807L, 0);
        dueRead("0".repeat(1100) + "9223372036854775807", 1, Long.MAX_VALUE, 0);
        dueRead("9223372036854775808", 2, 1, 63);
        dueRead("-9223372036854775808", 2, -1, 63);
        dueRead("18446744073709551617", 2, 1, 64);
        dueRead("0xfF", 1, 255, 0);
        dueRead("-0XaB", 1, -171, 0);
        dueRead("0xAFaf09", 1, 0xAFaf09, 0);
        dueRead("0x8000000000000000", 1, Long.MIN_VALUE, 0);
        dueRead("-0x8000000000000000", 1, Long.MIN_VALUE, 0);
        dueRead("0x10123456789abcdef", 1, 0x0123456789abcdefL, 0);
        dueRead("0x" + "f".repeat(1198), 1, -1, 0);
        dueRead("0x1e5", 1, 0x1e5, 0);
    }

    private static void readingReals() {
        dueRead("0.", 2, 0, 0);
        dueRead("-.0e5", 2, 0, 0);
        dueRead("0e99999999999999999999", 2, 0, 0);
        dueRead("5.", 2, 5, 0);
        dueRead(".5E1", 2, 5, 0);
        dueRead("1e5", 2, 3125, 5);
        dueRead("1E+05", 2, 3125, 5);
        dueRead("-2.5e-1", 2, -1, -2);
        dueRead("1" + "0".repeat(400) + "e-400", 2, 1, 0);
        dueRead("0." + "0".repeat(400) + "1e401", 2, 1, 0);
        dueRead("0." + "0".repeat(1100) + "1e1101", 2, 1, 0);
        dueRead("1e308", 2, me(1e308)[0], (int) me(1e308)[1]);
        dueRead("1e309", 3, 0, 0);
        dueRead("-1e309", 4, 0, 0);
        dueRead("1e310", 3, 0, 0);
        dueRead("-1e99999999999999999999", 4, 0, 0);
        BigInteger least = BigInteger.ONE.shiftLeft(1024).subtract(BigInteger.ONE.shiftLeft(970));
        dueRead(least.toString(), 3, 0, 0);
        dueRead("-" + least, 4, 0, 0);
        dueRead(least.subtract(BigInteger.ONE) + "." + "9".repeat(800), 2, (1L << 53) - 1, 971);
        String middle = new BigDecimal(Double.MIN_VALUE).divide(BigDecimal.valueOf(2)).toPlainString();
        dueRead(middle, 2, 0, 0);
        dueRead(middle + "0".repeat(1199 - middle.length()) + "1", 2, 1, -1074);
        dueRead("-1e-99999999999999999999", 2, 0, 0);
        dueRead("9007199254740993.0", 2, 1, 53);
        dueRead("9007199254740995.0", 2, 2251799813685249L, 2);
        dueRead("9007199254740993." + "0".repeat(1182) + "1", 2, 4503599627370497L, 1);
        dueRead("0x.8", 2, 1, -1);
        dueRead("0x1.", 2, 1, 0);
        dueRead("0x1P+4", 2, 1, 4);
        dueRead("0x1p-1074", 2, 1, -1074);
        dueRead("0x1p-1075", 2, 0, 0);
        dueRead("0x1.0000000000000000000000000001p-1075", 2, 1, -1074);
        dueRead("0x3p-1075", 2, 1, -1073);
        dueRead("0x1p1024", 3, 0, 0);
        dueRead("-0x1p99999999999", 4, 0, 0);
        dueRead("0x0p99999999999", 2, 0, 0);
        dueRead("0x20000000000001.0", 2, 1, 53);
        dueRead("0x20000000000001." + "0".repeat(900) + "1", 2, 4503599627370497L, 1);
        dueRead("0x20000000000003.0", 2, 2251799813685249L, 2);
        dueRead("0x0." + "0".repeat(1000) + "1p4004", 2, 1, 0);
        dueRead("0x1" + "0".repeat(1000) + "p-4000", 2, 1, 0);
    }

    private static long[] me(double d) {
        long m = Double.doubleToLongBits(d) & ((1L << 52) - 1) | 1L << 52;
        int zeros = Long.numberOfTrailingZeros(m);
        return new long[] {m >> zeros, Math.getExponent(d) - 52 + zeros};
    }

    private static void readingWrongTexts() {
        dueWrong("", 0);
        dueWrong("   ", 3);
        dueWrong("+", 1);
        dueWrong("+-1", 1);
        dueWrong("- 1", 1);
        dueWrong(".", 1);
        dueWrong("..1", 1);
        dueWrong(".e1", 1);
        dueWrong("1.2.3", 3);
        dueWrong("1 .", 2);
        dueWrong("1e", 2);
        dueWrong("1e-", 3);
        dueWrong("1e+-1", 3);
        dueWrong("1e 1", 2);
        dueWrong("1e1.", 3);
        dueWrong("1e1e1", 3);
        dueWrong("1p1", 1);
        dueWrong("0x", 2);
        dueWrong("0x.", 3);
        dueWrong("0xg", 2);
        dueWrong("0x+1", 2);
        dueWrong("0x1p", 4);
        dueWrong("0x1pa", 4);
        dueWrong("0x1p1a", 5);
        dueWrong("00x1", 2);
        dueWrong("1x", 1);
        dueWrong("12a", 2);
        dueWrong("inf", 0);
        dueWrong("nan", 0);
        dueWrong("1\u0000", 1);
        dueWrong("\u00a01", 0);
        dueWrong("\b1", 0);
        dueWrong("\u000e1", 0);
        dueWrong("1 2", 2);
        dueWrong("1".repeat(1199) + "e", 1200);
    }

    private static void wholeNumbers() {
        for (long v : new long[] {0, 1, -1, Long.MAX_VALUE, Long.MIN_VALUE}) {
            NumeralTexts x = ofSpecial(5);
            x.whole(v);
            dueValue("whole " + v, x, 1, v, 0);
        }
    }

    private static void dueReal(long m, int e, int kind, long number, int exponent) {
        NumeralTexts x = new NumeralTexts();
        due("real " + m + " " + e, x.real(m, e), kind);
        dueValue("real " + m + " " + e, x, kind, number, exponent);
    }

    private static void reals() {
        long most = 1L << 53;
        dueReal(0, 1200, 2, 0, 0);
        dueReal(12, 0, 2, 3, 2);
        dueReal(-12, -1, 2, -3, 1);
        dueReal(most - 1, 971, 2, most - 1, 971);
        dueReal(most, 971, 3, 0, 0);
        dueReal(-most, 971, 4, 0, 0);
        dueReal(1, 1200, 3, 0, 0);
        dueReal(-1, 1024, 4, 0, 0);
        dueReal(1, -1074, 2, 1, -1074);
        dueReal(1, -1075, 2, 0, 0);
        dueReal(3, -1075, 2, 1, -1073);
        dueReal(-3, -1076, 2, -1, -1074);
        dueReal(-1, -1200, 2, 0, 0);
        dueReal(most, -1127, 2, 1, -1074);
        dueReal(most, -1128, 2, 0, 0);
        NumeralTexts x = ofWhole(5);
        due("m too great", x.real(most + 1, 0), NumeralTexts.BAD);
        due("m too small", x.real(-most - 1, 0), NumeralTexts.BAD);
        due("m least", x.real(Long.MIN_VALUE, 0), NumeralTexts.BAD);
        due("e too great", x.real(0, 1201), NumeralTexts.BAD);
        due("e too small", x.real(0, -1201), NumeralTexts.BAD);
        dueValue("bad reals", x, 1, 5, 0);
    }

    private static void specials() {
        for (int kind = 3; kind <= 5; kind++) {
            NumeralTexts x = ofReal(3, 3);
            due("special " + kind, x.special(kind), true);
            dueValue("special " + kind, x, kind, 0, 0);
        }
        for (int kind : new int[] {Integer.MIN_VALUE, -1, 0, 1, 2, 6, Integer.MAX_VALUE}) {
            NumeralTexts x = ofReal(3, 3);
            due("special " + kind, x.special(kind), false);
            dueValue("no special " + kind, x, 2, 3, 3);
        }
    }

    private static void kindsNumbersExponents() {
        dueRead("8", 1, 8, 0);
        dueRead("8.0", 2, 1, 3);
        dueRead("-0.75", 2, -3, -2);
        dueRead("0.0", 2, 0, 0);
        dueReal(1, 1023, 2, 1, 1023);
    }

    private static void duePlain(NumeralTexts x, String want) {
        due("bytes of plain " + want, x.plain(), want.length());
        due("plain", page(x), want);
    }

    private static void plainTexts() {
        duePlain(new NumeralTexts(), "0");
        duePlain(ofWhole(Long.MIN_VALUE), "-9223372036854775808");
        duePlain(ofWhole(Long.MAX_VALUE), "9223372036854775807");
        duePlain(ofReal(0, 0), "0.0");
        duePlain(ofReal(-3, 0), "-3.0");
        duePlain(ofText("0.1"), "0.1");
        duePlain(ofText("3.14159265358979"), "3.1415926535898");
        duePlain(ofText("1e14"), "1e+14");
        duePlain(ofText("1e13"), "10000000000000.0");
        duePlain(ofText("99999999999999.5"), "1e+14");
        duePlain(ofText("0.0001"), "0.0001");
        duePlain(ofText("-0.00001"), "-1e-05");
        duePlain(ofText("1.5e300"), "1.5e+300");
        duePlain(ofReal(1, -1074), "4.9406564584125e-324");
        duePlain(ofSpecial(3), "inf");
        duePlain(ofSpecial(4), "-inf");
        duePlain(ofSpecial(5), "nan");
    }

    private static void formsOfWholes() {
        NumeralTexts x = ofWhole(42);
        dueForm(x, "d", "42");
        dueForm(x, "+d", "+42");
        dueForm(x, " d", " 42");
        dueForm(x, "+ d", "+42");
        dueForm(x, "#d", "42");
        dueForm(x, "6d", "    42");
        dueForm(x, "-6d", "42    ");
        dueForm(x, "06d", "000042");
        dueForm(x, "+06d", "+00042");
        dueForm(x, "-06d", "42    ");
        dueForm(x, "06.4d", "  0042");
        dueForm(x, "06.0d", "    42");
        dueForm(x, ".5d", "00042");
        dueForm(x, "+ x", "2a");
        dueForm(x, "X", "2A");
        dueForm(x, "#X", "0X2A");
        dueForm(x, "#08x", "0x00002a");
        dueForm(x, "#08.4x", "  0x002a");
        dueForm(x, "-#8x", "0x2a    ");
        dueForm(x, "-6x", "2a    ");
        dueForm(x, "-+ #06d", "+42   ");
        dueForm(x, "o", "52");
        dueForm(x, "#o", "052");
        dueForm(x, "#.2o", "052");
        dueForm(x, "#.3o", "052");
        dueForm(x, "#.4o", "0052");
        dueForm(x, "#06o", "000052");
        dueForm(x, "99.99d", "0".repeat(97) + "42");
        NumeralTexts zero = ofWhole(0);
        dueForm(zero, "d", "0");
        dueForm(zero, ".0d", "");
        dueForm(zero, "+.0d", "+");
        dueForm(zero, "3.0d", "   ");
        dueForm(zero, "#x", "0");
        dueForm(zero, "#.0x", "");
        dueForm(zero, "#o", "0");
        dueForm(zero, "#.0o", "0");
        dueForm(zero, ".0o", "");
        NumeralTexts least = ofWhole(Long.MIN_VALUE);
        dueForm(least, "d", "-9223372036854775808");
        dueForm(least, "x", "8000000000000000");
        dueForm(least, "o", "1000000000000000000000");
        dueForm(ofWhole(-1), "X", "FFFFFFFFFFFFFFFF");
        dueForm(ofWhole(-42), "06d", "-00042");
    }

    private static void formF() {
        dueForm(ofText("0.5"), ".0f", "0");
        dueForm(ofText("1.5"), ".0f", "2");
        dueForm(ofText("2.5"), ".0f", "2");
        dueForm(ofText("2.5"), "#.0f", "2.");
        dueForm(ofText("2.5"), "-4.0f", "2   ");
        dueForm(ofText("0.125"), ".2f", "0.12");
        dueForm(ofText("0.375"), ".2f", "0.38");
        dueForm(ofText("-0.001"), ".2f", "-0.00");
        dueForm(ofText("999.9996"), ".3f", "1000.000");
        dueForm(ofText("3.5"), "f", "3.500000");
        dueForm(ofText("3.5"), "+010.2F", "+000003.50");
        dueForm(ofText("-3.5"), "-8.1f", "-3.5    ");
        dueForm(ofReal(0, 0), "f", "0.000000");
        dueForm(ofText("1e22"), ".0f", "10000000000000000000000");
        dueForm(ofText("1e23"), ".1f", "99999999999999991611392.0");
        dueForm(ofReal(-1, 1023), ".99f", "-" + new BigDecimal(0x1p1023).toPlainString() + "." + "0".repeat(99));
        dueForm(ofReal(1, -1074), ".99f", "0." + "0".repeat(99));
    }

    private static void formE() {
        dueForm(ofText("12345.678"), "e", "1.234568e+04");
        dueForm(ofText("12345.678"), ".0E", "1E+04");
        dueForm(ofText("12345.678"), "#.0e", "1.e+04");
        dueForm(ofText("2.5"), ".0e", "2e+00");
        dueForm(ofText("3.5"), ".0e", "4e+00");
        dueForm(ofText("9.5"), ".0e", "1e+01");
        dueForm(ofText("0.00095"), ".1e", "9.5e-04");
        dueForm(ofReal(0, 0), "e", "0.000000e+00");
        dueForm(ofText("1e300"), ".2e", "1.00e+300");
        dueForm(ofReal(1, -1074), ".30e", "4.940656458412465441765687928682e-324");
        dueForm(ofText("-1.5"), "012.2e", "-0001.50e+00");
    }

    private static void formG() {
        dueForm(ofText("100000.0"), "g", "100000");
        dueForm(ofText("1000000.0"), "g", "1e+06");
        dueForm(ofText("999999.5"), "g", "1e+06");
        dueForm(ofText("0.0001"), "g", "0.0001");
        dueForm(ofText("0.00001"), "G", "1E-05");
        dueForm(ofText("0.00009999996"), "g", "0.0001");
        dueForm(ofText("1.5"), "#g", "1.50000");
        dueForm(ofText("123.0"), ".0g", "1e+02");
        dueForm(ofText("123.0"), "#.1g", "1.e+02");
        dueForm(ofText("123.0"), "#.3g", "123.");
        dueForm(ofText("120.0"), ".2g", "1.2e+02");
        dueForm(ofText("120.0"), ".5g", "120");
        dueForm(ofReal(0, 0), "g", "0");
        dueForm(ofReal(0, 0), "#g", "0.00000");
        dueForm(ofText("0.1"), ".60g", "0.1000000000000000055511151231257827021181583404541015625");
        dueForm(ofText("-1.25"), "08g", "-0001.25");
    }

    private static void formA() {
        dueForm(ofReal(1, 0), "a", "0x1p+0");
        dueForm(ofReal(1, 0), "#a", "0x1.p+0");
        dueForm(ofReal(0, 0), "a", "0x0p+0");
        dueForm(ofReal(0, 0), ".3A", "0X0.000P+0");
        dueForm(ofReal(-171, -7), "a", "-0x1.56p+0");
        dueForm(ofReal(-171, -7), ".1A", "-0X1.5P+0");
        dueForm(ofReal(0x1ab, 0), ".1A", "0X1.BP+8");
        dueForm(ofReal(3, -1), ".0a", "0x2p+0");
        dueForm(ofReal(5, -2), ".0a", "0x1p+0");
        dueForm(ofReal((1L << 53) - 1, -52), ".5a", "0x2.00000p+0");
        dueForm(ofReal(0x118, -8), ".1a", "0x1.2p+0");
        dueForm(ofReal(0x128, -8), ".1a", "0x1.2p+0");
        dueForm(ofReal(1, 0), ".15a", "0x1.000000000000000p+0");
        dueForm(ofReal(1, -1022), "a", "0x1p-1022");
        dueForm(ofReal(1, -1023), "a", "0x0.8p-1022");
        dueForm(ofReal(1, -1023), ".0a", "0x0p-1022");
        dueForm(ofReal(3, -1024), ".0a", "0x1p-1022");
        dueForm(ofReal(1, -1074), "a", "0x0.0000000000001p-1022");
        dueForm(ofReal(1, 1023), "a", "0x1p+1023");
        dueForm(ofReal(-1, 0), "012a", "-0x000001p+0");
        dueForm(ofReal(1, 0), "+12a", "     +0x1p+0");
    }

    private static void formsOfNoReals() {
        dueForm(ofSpecial(3), "f", "inf");
        dueForm(ofSpecial(3), "+08F", "    +INF");
        dueForm(ofSpecial(4), "08e", "    -inf");
        dueForm(ofSpecial(4), "-06E", "-INF  ");
        dueForm(ofSpecial(5), "g", "nan");
        dueForm(ofSpecial(5), "+G", "+NAN");
        dueForm(ofSpecial(5), " 06a", "   nan");
        dueForm(ofSpecial(5), "A", "NAN");
    }

    private static void formsAcrossKinds() {
        NumeralTexts x = ofWhole(9007199254740993L);
        dueForm(x, ".0f", "9007199254740992");
        dueValue("a whole number written as a real", x, 1, 9007199254740993L, 0);
        dueForm(ofWhole(Long.MIN_VALUE), "a", "-0x1p+63");
        dueForm(ofWhole(Long.MAX_VALUE), ".0f", "9223372036854775808");
        NumeralTexts y = ofReal(-1, 63);
        dueForm(y, "d", "-9223372036854775808");
        dueValue("a real written as a whole number", y, 2, -1, 63);
        dueForm(ofReal(1, 62), "d", "4611686018427387904");
        dueForm(ofReal((1L << 53) - 1, 10), "x", "7ffffffffffffc00");
        dueForm(ofReal(0, 0), "d", "0");
        for (NumeralTexts z : new NumeralTexts[] {ofReal(1, 63), ofReal(-3, 62), ofReal(1, -1), ofReal(1, 1000),
                ofSpecial(3), ofSpecial(4), ofSpecial(5)}) {
            for (char letter : "dxXo".toCharArray()) {
                due("no whole number", z.form(letter, 0, 0, -1), NumeralTexts.BAD);
            }
        }
    }

    private static void wrongForms() {
        for (int letter = 0; letter < 65536; letter++) {
            if (letter > 255 || "dxXoeEfFgGaA".indexOf(letter) < 0) {
                due("letter " + letter, ofWhole(12).form((char) letter, 0, 0, -1), NumeralTexts.BAD);
            }
        }
        NumeralTexts x = ofWhole(12);
        x.plain();
        for (char letter : "dxXoeEfFgGaA".toCharArray()) {
            due("flags -1", x.form(letter, -1, 0, -1), NumeralTexts.BAD);
            due("flags 32", x.form(letter, 32, 0, -1), NumeralTexts.BAD);
            due("width -1", x.form(letter, 0, -1, -1), NumeralTexts.BAD);
            due("width 100", x.form(letter, 0, 100, -1), NumeralTexts.BAD);
            due("precision -2", x.form(letter, 0, 0, -2), NumeralTexts.BAD);
            due("precision 100", x.form(letter, 0, 0, 100), NumeralTexts.BAD);
            due("what was written stays", page(x), "12");
        }
    }

    private static void dueShortest(NumeralTexts x, String want) {
        int digits = want.substring(0, want.indexOf('e')).replaceAll("[^0-9]", "").length();
        due("digits of shortest " + want, x.shortest(), digits);
        due("shortest", page(x), want);
    }

    private static void shortestTexts() {
        dueShortest(new NumeralTexts(), "0e+00");
        dueShortest(ofReal(0, 0), "0e+00");
        dueShortest(ofText("0.1"), "1e-01");
        dueShortest(ofText("-0.3"), "-3e-01");
        dueShortest(ofText("0.30000000000000004"), "3.0000000000000004e-01");
        dueShortest(ofText("1e23"), "1e+23");
        dueShortest(ofText("1e45"), "1e+45");
        dueShortest(ofText("123456.0"), "1.23456e+05");
        dueShortest(ofWhole(1000), "1e+03");
        dueShortest(ofWhole(9007199254740993L), "9.007199254740992e+15");
        dueShortest(ofWhole(Long.MIN_VALUE), "-9.223372036854776e+18");
        dueShortest(ofReal(1, -1074), "5e-324");
        dueShortest(ofReal((1L << 53) - 1, 971), "1.7976931348623157e+308");
        dueShortest(ofReal(1, -1022), "2.2250738585072014e-308");
        dueShortest(ofText("9007199254740991.0"), "9.007199254740991e+15");
        for (int kind = 3; kind <= 5; kind++) {
            NumeralTexts x = ofSpecial(kind);
            due("no shortest", x.shortest(), NumeralTexts.BAD);
            due("nothing is written by that", x.written(0), NumeralTexts.BAD);
        }
    }

    private static void writtenBytes() {
        NumeralTexts x = ofWhole(-70);
        x.plain();
        int[] got = {x.written(-1), x.written(0), x.written(1), x.written(2), x.written(3), x.written(Integer.MIN_VALUE),
                x.written(Integer.MAX_VALUE), x.written(419), x.written(420)};
        due("written", Arrays.toString(got), "[-1, 45, 55, 48, -1, -1, -1, -1, -1]");
        x.whole(5);
        due("what was written stays with a new value", page(x), "-70");
        x.plain();
        due("a shorter text", page(x), "5");
    }
}
