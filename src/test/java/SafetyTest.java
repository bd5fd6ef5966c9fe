import java.lang.management.ManagementFactory;
import java.lang.reflect.Constructor;
import java.lang.reflect.Field;
import java.lang.reflect.Method;
import java.lang.reflect.Modifier;
import java.util.Random;
import java.util.TreeSet;

/** The face is the document's alone, no call throws whatever it is given, and no call makes objects. */
public final class SafetyTest {
    private static final Random RANDOM = new Random(64);
    private static final String LETTERS = "dxXoeEfFgGaAqz\u0000\uffff";
    private static final String BYTES = "0123456789abcdefABCDEFxXpPeE..++-- \t\n";
    private static int wrong = 0;
    private static long sum = 0;

    public static void main(String[] args) {
        face();
        anyCalls();
        objectsMade();
        System.out.println(wrong == 0 ? "the face is kept and the calls are safe" : wrong + " faults");
        if (wrong != 0) {
            System.exit(1);
        }
    }

    private static void due(String what, Object got, Object want) {
        if (!want.equals(got)) {
            wrong++;
            System.out.println(what + " answered " + got + ", due is " + want);
        }
    }

    private static void face() {
        TreeSet<String> seen = new TreeSet<>();
        for (Method m : NumeralTexts.class.getDeclaredMethods()) {
            if (!Modifier.isPrivate(m.getModifiers())) {
                seen.add(m.toString());
            }
        }
        for (Field f : NumeralTexts.class.getDeclaredFields()) {
            if (!Modifier.isPrivate(f.getModifiers())) {
                seen.add(f.toString());
            }
        }
        for (Constructor<?> c : NumeralTexts.class.getDeclaredConstructors()) {
            seen.add(c.toString());
        }
        String at = " NumeralTexts.";
        TreeSet<String> want = new TreeSet<>();
        want.add("public static final int NumeralTexts.BAD");
        want.add("public static final int NumeralTexts.FULL");
        want.add("public NumeralTexts()");
        want.add("public int" + at + "type(long,int)");
        want.add("public int" + at + "read()");
        want.add("public void" + at + "whole(long)");
        want.add("public int" + at + "real(long,int)");
        want.add("public boolean" + at + "special(int)");
        want.add("public int" + at + "kind()");
        want.add("public long" + at + "number()");
        want.add("public int" + at + "exponent()");
        want.add("public int" + at + "plain()");
        want.add("public int" + at + "form(char,int,int,int)");
        want.add("public int" + at + "shortest()");
        want.add("public int" + at + "written(int)");
        due("the face", seen.toString(), want.toString());
        due("the class", Modifier.toString(NumeralTexts.class.getModifiers()), "public final");
        for (Class<?> inside : NumeralTexts.class.getDeclaredClasses()) {
            int modifiers = inside.getModifiers();
            due(inside + " is seen outside", Modifier.isPublic(modifiers) || Modifier.isProtected(modifiers), false);
            due(inside + " is static", Modifier.isStatic(modifiers), true);
        }
        due("BAD", NumeralTexts.BAD, -1);
        due("FULL", NumeralTexts.FULL, -3);
    }

    private static int anyInt(int most) {
        switch (RANDOM.nextInt(8)) {
            case 0: return RANDOM.nextInt();
            case 1: return Integer.MIN_VALUE;
            case 2: return Integer.MAX_VALUE;
            case 3: return RANDOM.nextInt(5) - 2;
            default: return RANDOM.nextInt(2 * most + 1) - most / 2;
        }
    }

    private static long anyLong() {
        return RANDOM.nextLong() >> RANDOM.nextInt(64);
    }

    private static long anyBytes() {
        long bytes = 0;
        for (int i = 0; i < 8; i++) {
            bytes = bytes << 8 | (RANDOM.nextInt(50) == 0 ? RANDOM.nextInt(256) : BYTES.charAt(RANDOM.nextInt(BYTES.length())));
        }
        return RANDOM.nextBoolean() ? 0x3030303030303030L | bytes & 0x0101010101010101L : bytes;
    }

    private static void anyCall(NumeralTexts x) {
        switch (RANDOM.nextInt(12)) {
            case 0: sum += x.read(); break;
            case 1: x.whole(anyLong()); break;
            case 2: sum += x.real(anyLong(), anyInt(1200)); break;
            case 3: sum += x.special(RANDOM.nextInt(8)) ? 1 : 0; break;
            case 4: sum += x.kind() + x.number() + x.exponent(); break;
            case 5: sum += x.plain(); break;
            case 6: sum += x.shortest(); break;
            case 7: sum += x.written(anyInt(420)); break;
            case 8: sum += x.form(LETTERS.charAt(RANDOM.nextInt(LETTERS.length())), anyInt(31), anyInt(99), anyInt(99)); break;
            default: sum += x.type(anyBytes(), RANDOM.nextInt(20) == 0 ? anyInt(8) : 8); break;
        }
    }

    private static void anyCalls() {
        for (int run = 0; run < 2000; run++) {
            NumeralTexts x = new NumeralTexts();
            for (int call = 0; call < 512; call++) {
                anyCall(x);
            }
        }
    }

    private static void objectsMade() {
        com.sun.management.ThreadMXBean threads = (com.sun.management.ThreadMXBean) ManagementFactory.getThreadMXBean();
        if (!threads.isThreadAllocatedMemorySupported()) {
            return;
        }
        NumeralTexts x = new NumeralTexts();
        long id = Thread.currentThread().getId();
        long before = threads.getThreadAllocatedBytes(id);
        for (int call = 0; call < 100000; call++) {
            anyCall(x);
        }
        long made = threads.getThreadAllocatedBytes(id) - before;
        due("fewer than 100,000 bytes made by 100,000 calls (" + made + ")", made < 100000, true);
    }
}
