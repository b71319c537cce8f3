import java.math.BigInteger;

/** The Terms' NUMBERS at their boundaries: what wraps, where rounding turns, where a sort ends, what jams. */
public final class NumbersBoundaryTest {
    private static final int INT = 4;
    private static final int LONG = 5;
    private static final String LEAST_INT = "(-2147483647-1)";
    private static final String LEAST_LONG = "(-9223372036854775807l-1)";
    private static final double MIN = Double.MIN_VALUE;
    private static final double MAX = Double.MAX_VALUE;
    private static final float FMIN = Float.MIN_VALUE;
    private static final float FMAX = Float.MAX_VALUE;

    private static void heldReals() {
        Due.sentence("all reals that are held are finite (-0 is one)");
        TurningHall hall = Due.planned("part d:double=1 then d;part f:float=1 then f;");
        long infinite = 0x7FF0000000000000L;
        long floatInfinite = 0x7F800000L;
        Due.due("the greatest", hall.set(0, infinite - 1), true);
        Due.due("the next", hall.set(0, infinite), false);
        Due.due("no number", hall.set(0, infinite + 1), false);
        Due.due("the least", hall.set(0, Long.MIN_VALUE + infinite - 1), true);
        Due.due("the next", hall.set(0, Long.MIN_VALUE + infinite), false);
        Due.due("all bits", hall.set(0, -1), false);
        Due.due("as the last that was held", hall.value(0, 0), Due.bits(-MAX));
        Due.due("-0", hall.set(0, Long.MIN_VALUE), true);
        Due.due("is -0", hall.value(0, 0), Long.MIN_VALUE);
        Due.due("the greatest FLOAT", hall.set(1, floatInfinite - 1), true);
        Due.due("the next", hall.set(1, floatInfinite), false);
        Due.due("no number", hall.set(1, floatInfinite + 1), false);
        Due.due("the least FLOAT", hall.set(1, 0xFF7FFFFFL), true);
        Due.due("its BITS as an int", hall.value(1, 0), (int) 0xFF7FFFFFL);
        Due.due("the next", hall.set(1, 0xFF800000L), false);
        Due.due("all bits", hall.set(1, 0xFFFFFFFFL), false);
        Due.due("-0", hall.set(1, 0x80000000L), true);
        Due.due("is -0", hall.value(1, 0), Integer.MIN_VALUE);
    }

    private static void bits() {
        Due.sentence("BITS of a value: TRUTH 0, 1; a whole itself; a FLOAT its 32 bits as an int; a DOUBLE its 64");
        Due.told("false", 0, 0);
        Due.told("true", 0, 1);
        Due.told("(byte)-128", 1, -128);
        Due.told("(char)65535", 3, 65535);
        Due.told(LEAST_LONG, LONG, Long.MIN_VALUE);
        Due.told("-0f", 6, Integer.MIN_VALUE);
        Due.told("-0.0", 7, Long.MIN_VALUE);
        Due.told("-1f", 6, 0xFFFFFFFFBF800000L);
        Due.told("1f", 6, 0x3F800000L);
    }

    private static void wraps() {
        Due.sentence("+ - * of INTs, of LONGs wrap");
        Due.told("2147483646+1", INT, 2147483647);
        Due.told("2147483647+1", INT, -2147483648);
        Due.told("-2147483647-1", INT, -2147483648);
        Due.told("-2147483647-2", INT, 2147483647);
        Due.told("46340*46340", INT, 2147395600);
        Due.told("46341*46341", INT, -2147479015);
        Due.told("65535*65537", INT, -1);
        Due.told("65536*65536", INT, 0);
        Due.told("9223372036854775806l+1", LONG, Long.MAX_VALUE);
        Due.told("9223372036854775807l+1", LONG, Long.MIN_VALUE);
        Due.told("-9223372036854775807l-1", LONG, Long.MIN_VALUE);
        Due.told("-9223372036854775807l-2", LONG, Long.MAX_VALUE);
        Due.told("3037000499l*3037000499l", LONG, 9223372030926249001L);
        Due.told("3037000500l*3037000500l", LONG, -9223372036709301616L);
        Due.told("4294967296l*4294967296l", LONG, 0);
        // What is JOINED to a wider sort wraps there alone.
        Due.told("2147483647+1l", LONG, 2147483648L);
        Due.told("(byte)127+(byte)1", INT, 128);
        Due.told("(short)32767+(short)1", INT, 32768);
        Due.told("(char)65535+(char)1", INT, 65536);
        Due.told("(char)0-(char)1", INT, -1);
        Due.told("-(byte)-128", INT, 128);
        Due.told("-" + LEAST_INT, INT, -2147483648);
        Due.told("-" + LEAST_LONG, LONG, Long.MIN_VALUE);
    }

    private static void quotients() {
        Due.sentence("/ is towards 0 (the least by -1 is the least), x % y is x less y times that");
        int[] xs = {-8, -7, -6, -1, 0, 1, 6, 7, 8};
        for (int x : xs) {
            Due.told(x + "/7", INT, x / 7);
            Due.told(x + "/-7", INT, x / -7);
            Due.told(x + "%7", INT, x % 7);
            Due.told(x + "%-7", INT, x % -7);
            Due.told(x + "l/-7", LONG, x / -7);
            Due.told(x + "%-7l", LONG, x % -7);
        }
        Due.told(LEAST_INT + "/-1", INT, -2147483648);
        Due.told("-2147483647/-1", INT, 2147483647);
        Due.told(LEAST_INT + "/1", INT, -2147483648);
        Due.told(LEAST_INT + "/-2", INT, 1073741824);
        Due.told(LEAST_INT + "%-1", INT, 0);
        Due.told(LEAST_INT + "%-2147483647", INT, -1);
        Due.told(LEAST_INT + "/" + LEAST_INT, INT, 1);
        Due.told("2147483647/" + LEAST_INT, INT, 0);
        Due.told("2147483647%" + LEAST_INT, INT, 2147483647);
        Due.told(LEAST_INT + "/-1l", LONG, 2147483648L);
        Due.told(LEAST_LONG + "/-1", LONG, Long.MIN_VALUE);
        Due.told("-9223372036854775807l/-1", LONG, Long.MAX_VALUE);
        Due.told(LEAST_LONG + "/1", LONG, Long.MIN_VALUE);
        Due.told(LEAST_LONG + "%-1", LONG, 0);
        Due.told(LEAST_LONG + "/-2", LONG, 1L << 62);
    }

    /** A hall whose STEP, d and e are DOUBLEs and f and g FLOATs, as they are set. */
    private static TurningHall held() {
        return Due.planned("part d:double=0 then d;part e:double=0 then e;part f:float=0 then f;part g:float=0 then g;");
    }

    private static double worked(char sign, double a, double b) {
        switch (sign) {
            case '+':
                return a + b;
            case '-':
                return a - b;
            case '*':
                return a * b;
            case '/':
                return a / b;
            default:
                return a % b;
        }
    }

    private static float worked(char sign, float a, float b) {
        switch (sign) {
            case '+':
                return a + b;
            case '-':
                return a - b;
            case '*':
                return a * b;
            case '/':
                return a / b;
            default:
                return a % b;
        }
    }

    /** The machine's own doubles round once, to the nearest, of two to the even one, too. */
    private static void real(double a, char sign, double b) {
        TurningHall hall = held();
        hall.set(0, Due.bits(a));
        hall.set(1, Due.bits(b));
        double due = worked(sign, a, b);
        boolean byZero = b == 0 && (sign == '/' || sign == '%');
        String call = a + " " + sign + " " + b;
        if (byZero || Double.isInfinite(due)) {
            Due.due(call, Due.ask(hall, "d" + sign + "e"), byZero ? 10 : 11);
        } else {
            Due.due(call, Due.ask(hall, "d" + sign + "e"), 7);
            Due.due(call, hall.told(), Due.bits(due));
        }
    }

    private static void real(float a, char sign, float b) {
        TurningHall hall = held();
        hall.set(2, Float.floatToRawIntBits(a));
        hall.set(3, Float.floatToRawIntBits(b));
        float due = worked(sign, a, b);
        boolean byZero = b == 0 && (sign == '/' || sign == '%');
        String call = a + "f " + sign + " " + b + "f";
        if (byZero || Float.isInfinite(due)) {
            Due.due(call, Due.ask(hall, "f" + sign + "g"), byZero ? 10 : 11);
        } else {
            Due.due(call, Due.ask(hall, "f" + sign + "g"), 6);
            Due.due(call, hall.told(), Float.floatToRawIntBits(due));
        }
    }

    private static void rounding() {
        Due.sentence("IEEE 754, to the nearest, of two the even one; + - * / of reals are rounded once");
        Due.told("1p53+1", 0x1p53);
        Due.told("1p53+1.5", 0x1p53 + 2);
        Due.told("1p53+2", 0x1p53 + 2);
        Due.told("1p53+3", 0x1p53 + 4);
        Due.told("1p53-0.5", 0x1p53);
        Due.told("1p53-1.5", 0x1p53 - 2);
        Due.told("1p53-1", 0x1p53 - 1);
        Due.told("1p24f+1f", 0x1p24f);
        Due.told("1p24f+1.5f", 0x1p24f + 2);
        Due.told("1p24f+3f", 0x1p24f + 4);
        Due.told("1p24f-0.5f", 0x1p24f);
        // The least ones, and what half of them becomes.
        Due.told("1p-1074*0.5", 0.0);
        Due.told("-1p-1074*0.5", -0.0);
        Due.told("1p-1074*0.75", MIN);
        Due.told("3p-1074*0.5", 2 * MIN);
        Due.told("1p-1074/2", 0.0);
        Due.told("3p-1074/2", 2 * MIN);
        Due.told("5p-1074/2", 2 * MIN);
        Due.told("1p-149f*0.5f", 0f);
        Due.told("3p-149f*0.5f", 2 * FMIN);
        Due.told("1p-149f/-2f", -0f);
        Due.told("1p-1022-1p-1074", Double.MIN_NORMAL - MIN);
        Due.told("1p-1022/2", Double.MIN_NORMAL / 2);
        double[] edges = {0.0, -0.0, MIN, -MIN, 2 * MIN, 3 * MIN, Double.MIN_NORMAL, Double.MIN_NORMAL - MIN, 0.5, 1, 1.5,
            3, -3, 1 + 0x1p-52, 1 - 0x1p-53, 0x1p53 - 1, 0x1p53, 0x1p54 + 4, 0.1, MAX, -MAX, MAX / 2, 0x1p970, 0x1p969,
            Math.nextDown(0x1p970), 0x1p512, Math.nextDown(0x1p512)};
        for (double a : edges) {
            for (double b : edges) {
                for (char sign : "+-*/%".toCharArray()) {
                    real(a, sign, b);
                }
            }
        }
        float[] floats = {0f, -0f, FMIN, -FMIN, 3 * FMIN, Float.MIN_NORMAL, Float.MIN_NORMAL - FMIN, 0.5f, 1f, 1.5f, -3f,
            1 + 0x1p-23f, 1 - 0x1p-24f, 0x1p24f - 1, 0x1p24f, 0.1f, FMAX, -FMAX, 0x1p103f, 0x1p102f, Math.nextDown(0x1p103f),
            0x1p64f, Math.nextDown(0x1p64f)};
        for (float a : floats) {
            for (float b : floats) {
                for (char sign : "+-*/%".toCharArray()) {
                    real(a, sign, b);
                }
            }
        }
    }

    /** Sums and products a hair above, at and below the middle of two reals: only one rounding tells them apart. */
    private static void hairs() {
        Due.sentence("+ - * / of reals are rounded once");
        for (double half : new double[] {0x1p-53, 3 * 0x1p-53}) {
            for (double x : new double[] {Math.nextDown(half), half, Math.nextUp(half)}) {
                real(1.0, '+', x);
                real(1.0, '-', x);
                real(-1.0, '-', x);
                real(1.0, '-', x / 2);
                real(x, '-', 1.0);
            }
        }
        // Farther below than all bits of the greater one: it must still not be lost where 1 less is half a step.
        for (int power : new int[] {-54, -55, -56, -57, -107, -108, -113, -114, -115, -116, -117, -118, -1000}) {
            real(1.0, '-', Math.scalb(1.0, power));
            real(1.0, '+', Math.scalb(1.0, power));
            real(1 + 0x1p-52, '-', Math.scalb(1.0, power));
        }
        BigInteger one = BigInteger.ONE;
        for (int k = 0; k < 16; k++) {
            long a = (1L << 52) + 1 + k * 281000000000002L;
            for (int low = 52; low <= 53; low++) {
                BigInteger round = one.shiftLeft(low);
                for (int bit = -1; bit < low - 1; bit++) {
                    BigInteger hair = bit < 0 ? BigInteger.ZERO : one.shiftLeft(bit);
                    for (BigInteger wanted : new BigInteger[] {one.shiftLeft(low - 1).add(hair), one.shiftLeft(low - 1).subtract(hair)}) {
                        long b = BigInteger.valueOf(a).modInverse(round).multiply(wanted).mod(round).longValue();
                        real((double) a, '*', (double) (low == 53 ? b : b | 1L << 52));
                    }
                }
            }
        }
    }

    private static void rests() {
        Due.sentence("x % y of reals: x less y times the whole part of the exact quotient: exact, with x's sign (a 0, too)");
        Due.told("4.0%2", 0.0);
        Due.told("-4.0%2", -0.0);
        Due.told("4.0%-2", 0.0);
        Due.told("-4.0%-2", -0.0);
        Due.told("0.0%-3", 0.0);
        Due.told("-0.0%3", -0.0);
        Due.told("-0f%3f", -0f);
        Due.told("1.5%2", 1.5);
        Due.told("-1.5%2", -1.5);
        Due.told("2.0%2", 0.0);
        Due.told("2.5%-2", 0.5);
        // The rounded quotient is 10, the exact one is a little below.
        Due.told("1%0.1", 1 % 0.1);
        Due.told("0.3%0.1", 0.3 % 0.1);
        Due.told("1p1023%3", 2.0);
        Due.told("1p1023%1p-1074", 0.0);
        Due.told("1p127f%7f", 0x1p127f % 7f);
        Due.told("1p-1074%1p1023", MIN);
        Due.told("3p-1074%2p-1074", MIN);
    }

    private static void smallerWholes() {
        Due.sentence("a whole of a smaller one its lowest bits (of CHAR without a sign)");
        long[] wholes = {-4294967297L, -4294967296L, -2147483649L, -2147483648L, -65537, -65536, -32769, -32768, -257, -256,
            -129, -128, -1, 0, 1, 127, 128, 255, 256, 32767, 32768, 65535, 65536, 2147483647L, 2147483648L, 4294967295L,
            4294967296L, Long.MAX_VALUE};
        for (long whole : wholes) {
            String text = "(" + whole + "l)";
            Due.told("(byte)" + text, 1, (byte) whole);
            Due.told("(short)" + text, 2, (short) whole);
            Due.told("(char)" + text, 3, (char) whole);
            Due.told("(int)" + text, 4, (int) whole);
            Due.told("(long)" + text, 5, whole);
        }
        Due.told("(short)(char)65535", 2, -1);
        Due.told("(short)(char)32767", 2, 32767);
        Due.told("(char)(short)-1", 3, 65535);
        Due.told("(char)(byte)-128", 3, 65408);
        Due.told("(byte)(char)128", 1, -128);
        Due.told("(int)(byte)-1", 4, -1);
        Due.told("(long)(char)65535", 5, 65535);
    }

    private static void wholesAsReals() {
        Due.sentence("a whole a real: the nearest");
        long[] wholes = {0, 1, -1, 16777215, 16777216, 16777217, 16777218, 16777219, 2147483583, 2147483584, 2147483647,
            33554433, 33554434, 33554435, 9007199254740991L, 9007199254740992L, 9007199254740993L, 9007199254740994L,
            9007199254740995L, 9223372036854775295L, 9223372036854775296L, 9223371761976868863L, 9223371761976868864L,
            Long.MAX_VALUE, 9007199791611905L};
        for (long whole : wholes) {
            Due.told("(double)" + whole + "l", (double) whole);
            Due.told("(float)" + whole + "l", (float) whole);
            Due.told("(double)-" + whole + "l", (double) -whole);
            Due.told("(float)-" + whole + "l", (float) -whole);
        }
        Due.told("(double)" + LEAST_LONG, -0x1p63);
        Due.told("(float)" + LEAST_LONG, -0x1p63f);
        Due.told("(float)" + LEAST_INT, -0x1p31f);
        Due.told("(double)2147483647", 2147483647.0);
        Due.told("(float)2147483647", 0x1p31f);
        // JOINED: the INT becomes a FLOAT first.
        Due.told("16777217+0f", 0x1p24f);
        Due.told("16777217==1p24f", 0, 1);
        Due.told("16777217==1p24", 0, 0);
        Due.told("9007199254740993l==1p53", 0, 1);
    }

    private static void asFloat(double x) {
        TurningHall hall = held();
        hall.set(0, Due.bits(x));
        String call = "(float) " + Double.toHexString(x);
        float due = (float) x;
        Due.due(call, Due.ask(hall, "(float)d"), Float.isInfinite(due) ? 11 : 6);
        if (!Float.isInfinite(due)) {
            Due.due(call, hall.told(), Float.floatToRawIntBits(due));
        }
    }

    private static void doublesAsFloats() {
        Due.sentence("a DOUBLE a FLOAT: the nearest");
        Due.told("(float)(1+1p-24)", 1f);
        Due.told("(float)(1+1p-24+1p-52)", 1 + 0x1p-23f);
        Due.told("(float)(1+3p-24)", 1 + 0x1p-22f);
        Due.told("(float)1p-149", FMIN);
        Due.told("(float)1p-150", 0f);
        Due.told("(float)-1p-150", -0f);
        Due.told("(float)3p-151", FMIN);
        Due.told("(float)3p-150", 2 * FMIN);
        Due.told("(float)-1p-1074", -0f);
        Due.told("(float)-0.0", -0f);
        Due.told("(float)(1p-126-1p-151)", Float.MIN_NORMAL);
        double half = 0x1p-150;
        double end = FMAX + 0x1p103;
        for (double x : new double[] {half, 3 * half, 0x1p-126, 0x1p-126 - 0x1p-150, FMAX, end, 0x1p128, MAX, 1 + 0x1p-24}) {
            asFloat(x);
            asFloat(Math.nextDown(x));
            asFloat(x == MAX ? x : Math.nextUp(x));
            asFloat(-x);
            asFloat(-Math.nextDown(x));
        }
    }

    private static void asWholes(double x) {
        TurningHall hall = held();
        hall.set(0, Due.bits(x));
        String of = " of " + Double.toHexString(x);
        long[] due = {(byte) (int) x, (short) (int) x, (char) (int) x, (int) x, (long) x};
        String[] sorts = {"byte", "short", "char", "int", "long"};
        for (int k = 0; k < 5; k++) {
            Due.due(sorts[k] + of, Due.ask(hall, "(" + sorts[k] + ")d"), k + 1);
            Due.due(sorts[k] + of, hall.told(), due[k]);
        }
    }

    private static void realsAsWholes() {
        Due.sentence("a real INT or LONG: its part towards 0, beyond the ends the end");
        Due.told("(int)0.999", INT, 0);
        Due.told("(int)-0.999", INT, 0);
        Due.told("(int)-0.0", INT, 0);
        Due.told("(int)2147483646.5", INT, 2147483646);
        Due.told("(int)2147483647.0", INT, 2147483647);
        Due.told("(int)2147483647.5", INT, 2147483647);
        Due.told("(int)2147483648.0", INT, 2147483647);
        Due.told("(int)-2147483648.5", INT, -2147483648);
        Due.told("(int)-2147483649.0", INT, -2147483648);
        Due.told("(int)1p31f", INT, 2147483647);
        Due.told("(long)1p31f", LONG, 2147483648L);
        Due.told("(long)1p63", LONG, Long.MAX_VALUE);
        Due.told("(long)(1p63-1024)", LONG, Long.MAX_VALUE - 1023);
        Due.told("(long)-1p63", LONG, Long.MIN_VALUE);
        Due.told("(long)(-1p63-2048)", LONG, Long.MIN_VALUE);
        Due.told("(long)(1024-1p63)", LONG, Long.MIN_VALUE + 1024);
        Due.told("(long)1p127f", LONG, Long.MAX_VALUE);
        Due.sentence("a real BYTE, SHORT, CHAR: it as an INT, then that's lowest bits");
        Due.told("(byte)127.9", 1, 127);
        Due.told("(byte)128.0", 1, -128);
        Due.told("(byte)-128.9", 1, -128);
        Due.told("(byte)-129.0", 1, 127);
        Due.told("(byte)2147483648.0", 1, -1);
        Due.told("(byte)-2147483649.0", 1, 0);
        Due.told("(short)32768.0", 2, -32768);
        Due.told("(short)1p40", 2, -1);
        Due.told("(char)65535.9", 3, 65535);
        Due.told("(char)65536.0", 3, 0);
        Due.told("(char)-0.9", 3, 0);
        Due.told("(char)-1.0", 3, 65535);
        Due.told("(char)1p40f", 3, 65535);
        Due.told("(char)-1p40f", 3, 0);
        double[] ends = {0, MIN, 1, 127, 128, 129, 32767, 32768, 65535, 65536, 0x1p31 - 1, 0x1p31, 0x1p31 + 1, 0x1p32, 0x1p52,
            0x1p53, 0x1p62, 0x1p63, 0x1p64, MAX};
        for (double end : ends) {
            asWholes(end);
            asWholes(-end);
            asWholes(Math.nextDown(end));
            asWholes(-Math.nextDown(end));
            asWholes(end == MAX ? end : -Math.nextUp(end));
        }
    }

    private static void jamsOfWholes() {
        Due.sentence("1 / or % of wholes by 0");
        for (String zero : new String[] {"0", "0l", "(byte)0", "(short)0", "(char)0", "(1-1)"}) {
            Due.jams("1/" + zero, 1);
            Due.jams("1%" + zero, 1);
            Due.jams("0/" + zero, 1);
            Due.jams("0%" + zero, 1);
            Due.jams("1l/" + zero, 1);
            Due.jams(LEAST_LONG + "%" + zero, 1);
        }
        Due.told("0/1", INT, 0);
        Due.told("0%-1", INT, 0);
        Due.told("1*0", INT, 0);
        Due.told("gcd(1,0)", 1.0);
    }

    private static void jamsOfReals() {
        Due.sentence("2 / or % of reals by 0 (-0 too)");
        for (String zero : new String[] {"0.0", "-0.0", "0f", "-0f", "(1.5-1.5)"}) {
            Due.jams("1.5/" + zero, 2);
            Due.jams("1.5%" + zero, 2);
            Due.jams("0.0/" + zero, 2);
            Due.jams("-0f%" + zero, 2);
            Due.jams("1/" + zero, 2);
            Due.jams("1l%" + zero, 2);
        }
        Due.jams("1.5/0", 2);
        Due.jams("1.5%0l", 2);
        Due.jams("1f/0", 2);
        Due.told("0/1p-1074", 0.0);
        Due.told("0f/-1p-149f", -0f);
        Due.told("1p-1074/1p-1074", 1.0);
        Due.told("1.5%1p-1074", 0.0);
    }

    private static void jamsOfTheEnd() {
        Due.sentence("3 a real of + - * / that is beyond the greatest finite one (rounded as if there were no end)");
        String greatest = "(1p1023+(1p1023-1p971))";
        Due.told(greatest, MAX);
        Due.told(greatest + "+1p969", MAX);
        Due.told(greatest + "+(1p970-1p917)", MAX);
        Due.jams(greatest + "+1p970", 3);
        Due.jams("-" + greatest + "-1p970", 3);
        Due.told("-" + greatest + "-1p969", -MAX);
        Due.jams("1p1023*2", 3);
        Due.told("1p1022*2", 0x1p1023);
        Due.jams("1p512*1p512", 3);
        Due.jams("1p1023/0.5", 3);
        Due.jams("1/1p-1074", 3);
        Due.told("1/1p-1023", 0x1p1023);
        Due.jams("-1/1p-1024", 3);
        String greatestFloat = "(float)16777215p104";
        Due.told(greatestFloat, FMAX);
        Due.told(greatestFloat + "+1p102f", FMAX);
        Due.told(greatestFloat + "+(1p103f-1p79f)", FMAX);
        Due.jams(greatestFloat + "+1p103f", 3);
        Due.jams("-" + greatestFloat + "-1p103f", 3);
        Due.jams("1p127f*2f", 3);
        Due.jams("1p127f*2l", 3);
        Due.told("1p127f*2.0", 0x1p128);
        Due.jams("1p127f/0.5f", 3);
        Due.sentence("3 .. or a FLOAT that a DOUBLE becomes");
        Due.told("(float)(16777215p104+1p102)", FMAX);
        Due.told("(float)(33554431p103-1p75)", FMAX);
        Due.jams("(float)33554431p103", 3);
        Due.jams("(float)1p128", 3);
        Due.told("(float)-(33554431p103-1p75)", -FMAX);
        Due.jams("(float)-33554431p103", 3);
        Due.told("(float)9223372036854775807l", 0x1p63f);
        Due.told("(int)(float)1p127", INT, 2147483647);
        // What only turns or takes a real to a whole never leaves the finite ones.
        Due.told("-" + greatest, -MAX);
        Due.told("rint" + greatest, MAX);
        Due.told("ceil" + greatest, MAX);
        Due.told("abs(-" + greatest + ")", MAX);
        Due.told(greatest + "%1p1023", 0x1p1023 - 0x1p971);
    }

    private static void jamsOfCams() {
        Due.sentence("4 an index that a cam has not");
        TurningHall hall = Due.planned("cam one=7;cam three=1,2,3;");
        Due.told(hall, "one[0]", 7, Due.bits(7));
        Due.due("behind the only one", Due.ask(hall, "one[1]"), 12);
        Due.due("ahead of the only one", Due.ask(hall, "one[-1]"), 12);
        for (String sort : new String[] {"byte", "short", "char", "int"}) {
            Due.told(hall, "three[(" + sort + ")0]", 7, Due.bits(1));
            Due.told(hall, "three[(" + sort + ")2]", 7, Due.bits(3));
            Due.due("3 as a " + sort, Due.ask(hall, "three[(" + sort + ")3]"), 12);
            Due.due("-1 as a " + sort, Due.ask(hall, "three[(" + sort + ")-1]"), 12);
        }
        Due.due("the greatest", Due.ask(hall, "three[2147483647]"), 12);
        Due.due("the least", Due.ask(hall, "three[" + LEAST_INT + "]"), 12);
        Due.sentence("JAMS, which end a formula without a value");
        Due.told(hall, "41+1", INT, 42);
        Due.due("jams", Due.ask(hall, "0*(1/0)"), 9);
        Due.due("no value", hall.told(), 42);
        Due.due("the first of two", Due.ask(hall, "three[3]+1/0"), 12);
        Due.due("the first of two", Due.ask(hall, "1/0+three[3]"), 9);
        Due.due("the index jams ahead of the cam", Due.ask(hall, "three[1/0]"), 9);
    }

    public static void main(String[] args) {
        heldReals();
        bits();
        wraps();
        quotients();
        rounding();
        hairs();
        rests();
        smallerWholes();
        wholesAsReals();
        doublesAsFloats();
        realsAsWholes();
        jamsOfWholes();
        jamsOfReals();
        jamsOfTheEnd();
        jamsOfCams();
        Due.finish("NumbersBoundaryTest");
    }
}
