import java.math.BigDecimal;
import java.math.BigInteger;
import java.math.MathContext;
import java.math.RoundingMode;
import java.util.Random;

/** Many values, always the same ones, against the library's exact decimals and its reading of doubles. */
public final class OracleTest {
    private static final int ROUNDS = 20000;
    private static final Random RANDOM = new Random(20261115);
    private static int wrong = 0;

    public static void main(String[] args) {
        for (int i = 0; i < ROUNDS; i++) {
            double d = anyDouble();
            writing(d);
            readingBack(d);
            readingHalfway(d);
            readingWith16(d);
        }
        System.out.println(wrong == 0 ? "all agree with the library" : wrong + " answers do not agree with the library");
        if (wrong != 0) {
            System.exit(1);
        }
    }

    private static void due(String what, Object got, Object want) {
        if (!want.equals(got)) {
            wrong++;
            if (wrong < 20) {
                System.out.println(what + " answered " + got + ", due is " + want);
            }
        }
    }

    private static double anyDouble() {
        double d;
        switch (RANDOM.nextInt(5)) {
            case 0: d = Double.longBitsToDouble(RANDOM.nextLong()); break;
            case 1: d = Double.longBitsToDouble(RANDOM.nextLong() >>> (12 + RANDOM.nextInt(52))); break;
            case 2: d = Math.scalb((double) RANDOM.nextInt(64), RANDOM.nextInt(2090) - 1074); break;
            case 3: d = (RANDOM.nextInt(200000) - 100000) / 1000.0; break;
            default: d = RANDOM.nextLong() / Math.pow(10, RANDOM.nextInt(30)); break;
        }
        return Double.isNaN(d) || Double.isInfinite(d) || d == 0 ? 1.0 : d;
    }

    private static NumeralTexts of(double d) {
        NumeralTexts x = new NumeralTexts();
        BigDecimal[] parts = parts(d);
        x.real(parts[0].longValueExact(), parts[1].intValueExact());
        return x;
    }

    /** The odd factor and the power of 2. */
    private static BigDecimal[] parts(double d) {
        long bits = Double.doubleToLongBits(d);
        long m = bits & ((1L << 52) - 1);
        int e = -1074;
        int raw = (int) (bits >>> 52) & 2047;
        if (raw > 0) {
            m |= 1L << 52;
            e = raw - 1075;
        }
        int zeros = Long.numberOfTrailingZeros(m);
        m >>= zeros;
        return new BigDecimal[] {BigDecimal.valueOf(d < 0 ? -m : m), BigDecimal.valueOf(e + zeros)};
    }

    private static String page(NumeralTexts x, int count) {
        StringBuilder text = new StringBuilder();
        for (int i = 0; i < count; i++) {
            text.append((char) x.written(i));
        }
        return text.toString();
    }

    private static String formE(BigDecimal exact, int precision) {
        BigDecimal rounded = exact.abs().round(new MathContext(precision + 1, RoundingMode.HALF_EVEN));
        String digits = rounded.unscaledValue().toString();
        int power = digits.length() - 1 - rounded.scale();
        digits = digits + "0".repeat(Math.max(0, precision + 1 - digits.length()));
        String sign = exact.signum() < 0 ? "-" : "";
        String point = precision > 0 ? "." : "";
        return sign + digits.charAt(0) + point + digits.substring(1) + (power < 0 ? "e-" : "e+")
            + (Math.abs(power) < 10 ? "0" : "") + Math.abs(power);
    }

    private static String formF(BigDecimal exact, int precision) {
        String sign = exact.signum() < 0 ? "-" : "";
        return sign + exact.abs().setScale(precision, RoundingMode.HALF_EVEN).toPlainString();
    }

    private static void dueForm(double d, char letter, int precision, String want) {
        NumeralTexts x = of(d);
        due("form " + letter + " of " + d, page(x, x.form(letter, 0, 0, precision)), want);
    }

    private static void writing(double d) {
        BigDecimal exact = new BigDecimal(d);
        int precision = RANDOM.nextInt(RANDOM.nextBoolean() ? 100 : 8);
        dueForm(d, 'e', precision, formE(exact, precision));
        dueForm(d, 'f', precision, formF(exact, precision));
        if (Math.abs(d) >= Double.MIN_NORMAL) {
            dueForm(d, 'a', -1, Double.toHexString(d).replace(".0p", "p").replaceAll("p(?=[0-9])", "p+"));
        }
        for (int p = 0; p <= 16; p++) {
            String text = formE(exact, p);
            if (Double.parseDouble(text) == d) {
                NumeralTexts x = of(d);
                due("digits of shortest of " + d, x.shortest(), p + 1);
                due("shortest of " + d, page(x, text.length()), text);
                break;
            }
        }
    }

    private static void dueReading(String text, double d) {
        NumeralTexts x = new NumeralTexts();
        for (int from = 0; from < text.length(); from += 8) {
            int to = Math.min(text.length(), from + 8);
            long bytes = 0;
            for (int i = from; i < to; i++) {
                bytes = bytes << 8 | text.charAt(i);
            }
            x.type(bytes, to - from);
        }
        int kind = x.read();
        if (Double.isInfinite(d)) {
            due("read of " + text, kind, d > 0 ? 3 : 4);
            return;
        }
        due("read of " + text, kind, 2);
        if (d == 0) {
            due("number of " + text, x.number(), 0L);
            return;
        }
        due("number of " + text, x.number(), parts(d)[0].longValueExact());
        due("exponent of " + text, x.exponent(), parts(d)[1].intValueExact());
    }

    private static void readingBack(double d) {
        BigDecimal exact = new BigDecimal(d);
        dueReading(formE(exact, 16), d);
        String text = formE(exact, RANDOM.nextInt(16));
        dueReading(text, Double.parseDouble(text));
    }

    /** The middle between two neighbours is the hardest to read: it, and what is barely more or less. */
    private static void readingHalfway(double d) {
        double above = Math.nextUp(Math.abs(d));
        BigDecimal middle = Double.isInfinite(above)
            ? new BigDecimal(BigInteger.ONE.shiftLeft(1024).subtract(BigInteger.ONE.shiftLeft(970)))
            : new BigDecimal(Math.abs(d)).add(new BigDecimal(above)).divide(BigDecimal.valueOf(2));
        BigInteger digits = middle.unscaledValue();
        String power = "e" + -middle.scale();
        dueReading(digits + power, Double.parseDouble(digits + power));
        String less = digits.subtract(BigInteger.ONE) + power;
        dueReading(less, Double.parseDouble(less));
        String more = digits + "." + "0".repeat(RANDOM.nextInt(300)) + "1" + power;
        dueReading(more, Double.parseDouble(more));
    }

    private static void readingWith16(double d) {
        StringBuilder text = new StringBuilder("0x");
        int count = 1 + RANDOM.nextInt(40);
        int point = RANDOM.nextInt(count);
        for (int i = 0; i < count; i++) {
            text.append(i == point ? "." : "").append(Integer.toHexString(RANDOM.nextInt(3) == 0 ? RANDOM.nextInt(16) : 0));
        }
        text.append('p').append(RANDOM.nextInt(2400) - 1200);
        dueReading(text.toString(), Double.parseDouble(text.toString()));
        dueReading(Double.toHexString(d), d);
    }
}
