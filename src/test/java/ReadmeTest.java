import java.io.IOException;
import java.nio.file.Files;
import java.nio.file.Path;
import java.util.regex.Matcher;
import java.util.regex.Pattern;

/** Makes the calls that README.md shows, in their order, and compares the answers and texts that it tells. */
public final class ReadmeTest {
    private static final int LEAST_LINES = 30;
    private static final String NEW_OBJECT = "NumeralTexts x = new NumeralTexts();";
    private static final Pattern CALL = Pattern.compile("x\\.(\\w+)\\((.*?)\\);(?:\\s+// (-?\\d+|true|false)(?:: (.*))?)?");

    private static int wrong = 0;
    private static int lines = 0;
    private static NumeralTexts x = new NumeralTexts();
    private static String typed = "";

    public static void main(String[] args) throws IOException {
        for (String line : Files.readAllLines(Path.of("README.md"))) {
            if (line.equals(NEW_OBJECT)) {
                x = new NumeralTexts();
                typed = "";
            } else if (line.startsWith("x.")) {
                lines++;
                take(line);
            }
        }
        if (lines < LEAST_LINES) {
            fail("README.md shows only " + lines + " calls");
        }
        System.out.println(lines + " calls of README.md, " + wrong + " faults");
        if (wrong != 0) {
            System.exit(1);
        }
    }

    private static void fail(String what) {
        wrong++;
        System.out.println(what);
    }

    private static void take(String line) {
        Matcher parts = CALL.matcher(line);
        if (!parts.matches()) {
            fail("not understood: " + line);
            return;
        }
        String name = parts.group(1);
        String got = answer(name, parts.group(2).isEmpty() ? new String[0] : parts.group(2).split(", "));
        String told = parts.group(3) == null ? "none" : parts.group(3);
        if (!got.equals(told)) {
            fail("answered " + got + ": " + line);
        }
        String words = parts.group(4) == null ? "" : parts.group(4);
        if (words.startsWith("\"")) {
            dueText(line, name.equals("type") ? typed : page(), words);
        }
    }

    private static void dueText(String line, String text, String told) {
        if (!told.equals("\"" + text + "\"")) {
            fail("the text is \"" + text + "\": " + line);
        }
    }

    private static String answer(String name, String[] given) {
        switch (name) {
            case "type": return type(Long.decode(given[0].replace("L", "")), Integer.parseInt(given[1]));
            case "read": return read();
            case "whole": x.whole(Long.parseLong(given[0])); return "none";
            case "real": return "" + x.real(Long.parseLong(given[0]), Integer.parseInt(given[1]));
            case "special": return "" + x.special(Integer.parseInt(given[0]));
            case "kind": return "" + x.kind();
            case "number": return "" + x.number();
            case "exponent": return "" + x.exponent();
            case "plain": return "" + x.plain();
            case "form": return "" + x.form(given[0].charAt(1), Integer.parseInt(given[1]), Integer.parseInt(given[2]),
                Integer.parseInt(given[3]));
            case "shortest": return "" + x.shortest();
            case "written": return "" + x.written(Integer.parseInt(given[0]));
            default: return "no such call";
        }
    }

    private static String type(long bytes, int n) {
        int answer = x.type(bytes, n);
        for (int i = n - 1; i >= 0 && answer >= 0; i--) {
            typed += (char) (bytes >>> 8 * i & 255);
        }
        return "" + answer;
    }

    private static String read() {
        typed = "";
        return "" + x.read();
    }

    private static String page() {
        StringBuilder text = new StringBuilder();
        int next = x.written(0);
        for (int i = 1; next >= 0; i++) {
            text.append((char) next);
            next = x.written(i);
        }
        return text.toString();
    }
}
