import java.util.Random;

/** Drawn numbers and texts, the same with every run of a test: the seed is told. */
final class Draws {
    private static final double[] EDGES = {
        0.0, -0.0, 1.0, -1.0, 0.5, -0.5, 1.5, 2.5, -2.5, 0.1, 10.0, 1e15, 4503599627370496.0, 4503599627370495.5,
        9007199254740992.0, 9007199254740993.0, 2147483647.0, 2147483648.0, -2147483648.0, -2147483649.0,
        9.223372036854775807e18, -9.223372036854775808e18, 1e19, 65535.0, 65536.0, 127.9, 128.0, -129.0,
        Double.MIN_VALUE, -Double.MIN_VALUE, Double.MIN_NORMAL, Double.MAX_VALUE, -Double.MAX_VALUE,
        Float.MAX_VALUE, Float.MIN_VALUE, Float.MIN_NORMAL, 3.4028235677973366e38, 3.4028235677973362e38,
        7.006492321624085e-46, 7.006492321624086e-46, 86400.0, -86400.0, 86399.99999999999, 0.49999999999999994,
        0.9999999999999999, 1.0000000000000002, 3.0, 7.0, 1e308, 1e-308, 2.2250738585072011e-308,
    };
    final Random random;

    Draws(long seed) {
        random = new Random(seed);
    }

    int below(int n) {
        return random.nextInt(n);
    }

    boolean oneIn(int n) {
        return random.nextInt(n) == 0;
    }

    String oneOf(String... all) {
        return all[random.nextInt(all.length)];
    }

    /** The BITS of a double of any size, now and then no finite one. */
    long real() {
        switch (below(8)) {
            case 0:
                return Double.doubleToRawLongBits(EDGES[below(EDGES.length)]);
            case 1:
                return random.nextLong();
            case 2:
                return Double.doubleToRawLongBits((random.nextInt(2001) - 1000) / 8.0);
            case 3:
                return Double.doubleToRawLongBits(random.nextInt());
            case 4:
                return Double.doubleToRawLongBits((double) random.nextLong());
            case 5:
                return random.nextLong() & 0x800FFFFFFFFFFFFFL;
            case 6:
                return Double.doubleToRawLongBits(Math.scalb(random.nextInt(1 << below(30) + 1), below(120) - 60));
            default:
                return Double.doubleToRawLongBits(Math.scalb(random.nextDouble() - 0.5, below(130) - 60));
        }
    }

    long whole() {
        switch (below(4)) {
            case 0:
                return random.nextLong() >> below(64);
            case 1:
                return below(21) - 10;
            case 2:
                return new long[] {Long.MIN_VALUE, Long.MAX_VALUE, Integer.MIN_VALUE, Integer.MAX_VALUE, 255, 128,
                    -128, 65535, 32768, 0, 1, -1}[below(12)];
            default:
                return random.nextInt();
        }
    }

    String number() {
        switch (below(9)) {
            case 0:
                return "" + below(10);
            case 1:
                return "" + (random.nextInt() >>> 1 + below(30));
            case 2:
                return (random.nextLong() >>> 1 + below(62)) + "l";
            case 3:
                return oneOf("2147483647", "9223372036854775807l", "0", "0l", "1", "255", "65535", "32768");
            case 4:
                return below(1000) + "." + below(1000);
            case 5:
                return below(1000000) + "p" + (below(2101) - 1050);
            case 6:
                return below(100000) + oneOf("f", "p-20f", "p100f", "p-150f", "p-140f", "p110f", ".25f", ".1f");
            case 7:
                return oneOf("0.0", "0.1", "1.0", "0.5", "2.5", "1p1023", "1p-1074", "999999999999999p974",
                    "16777215p104f", "1p-149f", "0.0f", "1p52", "1p63", "1p31", "000000000000001p-1074", "1p-1075");
            default:
                return random.nextLong() % 100000000000000L + "p" + (below(200) - 100);
        }
    }

    /** A number that the document allows, without sign. */
    String literal() {
        String n = number();
        return n.startsWith("-") ? n.substring(1) : n;
    }
}
