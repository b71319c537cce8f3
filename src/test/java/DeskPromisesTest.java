/** Promises 17 to 24, with answers taken from the document by hand. */
public final class DeskPromisesTest {
    private static final double INFINITE = Double.POSITIVE_INFINITY;
    private static final int NO_DATE = -1000000000;

    private static void dial(double x, int digits, String text) {
        TurningHall hall = new TurningHall();
        Due.due("dial of " + x, hall.dial(Due.bits(x), digits), text.length());
        Due.due("text of " + x, Due.text(hall), text);
    }

    private static void promise17Dial() {
        dial(0, 0, "0");
        dial(-0.0, 0, "0");
        dial(-0.0, 2, "0.00");
        dial(-0.3, 0, "-0");
        dial(12.5, 0, "12");
        dial(12.5, 1, "12.5");
        dial(-12.5, 3, "-12.500");
        dial(0.1, 18, "0.100000000000000000");
        dial(0.3, 18, "0." + digits(0.3));
        dial(999.999, 2, "999.99");
        dial(1e15, 0, "1000000000000000");
        dial(1e300, 1, "9223372036854775807.0");
        dial(-1e300, 18, "-9223372036854775807.000000000000000000");
        dial(Double.MIN_VALUE, 4, "0.0000");
        dial(-Double.MIN_VALUE, 1, "-0.0");
        TurningHall hall = new TurningHall();
        hall.dial(Due.bits(7), 0);
        Due.due("infinite", hall.dial(Due.bits(-INFINITE), 0), -1);
        Due.due("NaN", hall.dial(Due.bits(Double.NaN), 3), -1);
        Due.due("digits", hall.dial(Due.bits(1), 19), -1);
        Due.due("digits", hall.dial(Due.bits(1), -1), -1);
        Due.due("digits", hall.dial(Due.bits(1), Integer.MIN_VALUE), -1);
        Due.due("stays", Due.text(hall), "7");
        Due.due("count", hall.count(6), 1);
    }

    /** Eighteen digits by the machine's own arithmetic. */
    private static String digits(double x) {
        StringBuilder s = new StringBuilder();
        double r = x;
        for (int k = 0; k < 18; k++) {
            r *= 10;
            s.append((int) r);
            r -= (int) r;
        }
        return s.toString();
    }

    private static void clock(double x, String text) {
        TurningHall hall = new TurningHall();
        Due.due("clock of " + x, hall.clock(Due.bits(x)), text.length());
        Due.due("text of " + x, Due.text(hall), text);
    }

    private static void promise18Clock() {
        clock(0, "0 00:00:00");
        clock(-0.0, "0 00:00:00");
        clock(86399.999, "0 23:59:59");
        clock(86400, "1 00:00:00");
        clock(90061, "1 01:01:01");
        clock(-1, "-1 23:59:59");
        clock(-86400, "-1 00:00:00");
        clock(-86401, "-2 23:59:59");
        clock(-1e-20, "-1 00:00:00");
        clock(-Double.MIN_VALUE, "0 00:00:00");
        clock(1e300, "9223372036854775807 " + String.format("%02d:%02d:%02d", (int) (1e300 % 86400) / 3600,
            (int) (1e300 % 86400) / 60 % 60, (int) (1e300 % 86400) % 60));
        TurningHall hall = new TurningHall();
        hall.clock(Due.bits(5));
        Due.due("infinite", hall.clock(Due.bits(INFINITE)), -1);
        Due.due("NaN", hall.clock(-1), -1);
        Due.due("stays", Due.text(hall), "0 00:00:05");
    }

    private static void promise19Octet() {
        TurningHall hall = new TurningHall();
        Due.due("no TEXT", hall.octet(0), -1);
        hall.dial(Due.bits(-3.25), 2);
        Due.due("first", hall.octet(0), '-');
        Due.due("last", hall.octet(4), '5');
        Due.due("behind", hall.octet(5), -1);
        Due.due("ahead", hall.octet(-1), -1);
        Due.due("far", hall.octet(Integer.MAX_VALUE), -1);
        Due.due("least", hall.octet(Integer.MIN_VALUE), -1);
        hall.dial(Due.bits(3), 0);
        Due.due("shorter", hall.octet(1), -1);
        Due.plan(hall, "show a:int=1;");
        Due.due("stays with a plan", hall.octet(0), '3');
    }

    private static void measure(double a, double b, double due) {
        Due.due("measure " + a + " " + b, new TurningHall().measure(Due.bits(a), Due.bits(b)), Due.bits(due));
    }

    private static void promise20Measure() {
        measure(12, 18, 6);
        measure(-12, 18, 6);
        measure(12, -18, 6);
        measure(0, -5, 5);
        measure(5, -0.0, 5);
        measure(-0.0, 0, 0);
        measure(-0.0, -0.0, 0);
        measure(0.75, 0.5, 0.25);
        measure(1, 0.1, 0.1 % (1 % 0.1) == 0 ? 1 % 0.1 : Oracle.gcd(1, 0.1));
        measure(Double.MAX_VALUE, Double.MIN_VALUE, Double.MIN_VALUE);
        TurningHall hall = new TurningHall();
        Due.due("infinite", hall.measure(Due.bits(INFINITE), Due.bits(1)), -1);
        Due.due("infinite", hall.measure(Due.bits(1), Due.bits(-INFINITE)), -1);
        Due.due("NaN", hall.measure(Due.bits(Double.NaN), 0), -1);
    }

    private static void together(double a, double b, double due) {
        Due.due("together " + a + " " + b, new TurningHall().together(Due.bits(a), Due.bits(b)), Due.bits(due));
    }

    private static void promise21Together() {
        together(12, 18, 36);
        together(1, 1, 1);
        together(0.75, 0.5, 1.5);
        together(3600, 43200, 43200);
        TurningHall hall = new TurningHall();
        double[][] none = {{0, 1}, {1, 0}, {-1, 1}, {1, -1}, {-0.0, 1}, {INFINITE, 1}, {1, INFINITE},
            {Double.NaN, 1}, {1, Double.NaN}, {1e308, 1.5}, {Double.MIN_VALUE, Double.MAX_VALUE}};
        for (double[] call : none) {
            long got = hall.together(Due.bits(call[0]), Due.bits(call[1]));
            Due.due("together " + call[0] + " " + call[1], got, -1);
        }
    }

    private static void train(double t, int stages, int low, int high, double far, int... wheels) {
        TurningHall hall = new TurningHall();
        Due.due("train for " + t, hall.train(Due.bits(t), stages, low, high), Due.bits(far));
        for (int k = 0; k < 4; k++) {
            Due.due("wheel " + k + " for " + t, hall.wheel(k), k < wheels.length ? wheels[k] : 0);
        }
        Due.due("wheels for " + t, hall.count(7), wheels.length);
    }

    private static void promise22Train() {
        train(1, 1, 4, 34, 0, 4, 4);
        train(2, 1, 4, 34, 0, 8, 4);
        train(0.75, 1, 4, 8, 0, 6, 8);
        train(0.1, 1, 4, 8, 0.4, 4, 8);
        train(1, 2, 4, 6, 0, 4, 4, 4, 4);
        train(6.25, 2, 4, 10, 0, 10, 4, 10, 4);
        train(1e300, 2, 4, 5, 1e300, 4, 4, 4, 4);
        train(5, 1, 4, 4, 4, 4, 4);
        train(0.6, 2, 200, 200, 0.4, 200, 200, 200, 200);
        TurningHall hall = new TurningHall();
        hall.train(Due.bits(0.75), 1, 4, 8);
        double[] none = {0, -0.0, -1, INFINITE, -INFINITE, Double.NaN};
        for (double t : none) {
            Due.due("train for " + t, hall.train(Due.bits(t), 1, 4, 8), -1);
        }
        int[][] rest = {{0, 4, 8}, {3, 4, 8}, {-1, 4, 8}, {1, 3, 8}, {1, 5, 4}, {1, 4, 35}, {1, 180, 201},
            {1, Integer.MIN_VALUE, 8}, {1, 4, Integer.MAX_VALUE}, {1, Integer.MAX_VALUE, Integer.MAX_VALUE},
            {2, Integer.MIN_VALUE, Integer.MAX_VALUE}};
        for (int[] r : rest) {
            Due.due("train " + r[0] + " " + r[1] + " " + r[2], hall.train(Due.bits(1), r[0], r[1], r[2]), -1);
        }
        Due.due("the latest stays", hall.wheel(0), 6);
        Due.due("the latest stays", hall.wheel(1), 8);
        Due.due("the widest", hall.train(Due.bits(Math.PI), 2, 170, 200) >= 0, true);
    }

    private static void promise23Wheel() {
        TurningHall hall = new TurningHall();
        Due.due("ahead of any", hall.wheel(0), 0);
        hall.train(Due.bits(1.5), 2, 4, 6);
        Due.due("n1", hall.wheel(0), 4);
        Due.due("m1", hall.wheel(1), 4);
        Due.due("n2", hall.wheel(2), 6);
        Due.due("m2", hall.wheel(3), 4);
        Due.due("behind", hall.wheel(4), 0);
        Due.due("ahead", hall.wheel(-1), 0);
        Due.due("least", hall.wheel(Integer.MIN_VALUE), 0);
        Due.due("greatest", hall.wheel(Integer.MAX_VALUE), 0);
        hall.train(Due.bits(1.5), 1, 4, 6);
        Due.due("two alone", hall.wheel(2), 0);
        Due.due("m1", hall.wheel(1), 4);
    }

    private static void date(double day, int... due) {
        for (int what = 0; what < 5; what++) {
            Due.due("date " + day + " " + what, new TurningHall().date(Due.bits(day), what), due[what]);
        }
    }

    private static void promise24Date() {
        date(0, 1970, 1, 1, 3, 1);
        date(0.99, 1970, 1, 1, 3, 1);
        date(-0.5, 1969, 12, 31, 2, 365);
        date(-0.0, 1970, 1, 1, 3, 1);
        date(59, 1970, 3, 1, 6, 60);
        date(11016, 2000, 2, 29, 1, 60);
        date(11017, 2000, 3, 1, 2, 61);
        date(11322, 2000, 12, 31, 6, 366);
        date(-25509, 1900, 2, 28, 2, 59);
        date(-25508, 1900, 3, 1, 3, 60);
        date(-719162, 1, 1, 1, 0, 1);
        date(-719163, 0, 12, 31, 6, 366);
        date(-719528, 0, 1, 1, 5, 1);
        date(-719529, -1, 12, 31, 4, 365);
        date(20773, 2026, 11, 16, 0, 320);
        date(100000000.5, 275760, 9, 13, 5, 257);
        date(-100000000, -271821, 4, 20, 1, 110);
        TurningHall hall = new TurningHall();
        Due.due("beyond", hall.date(Due.bits(100000001), 0), NO_DATE);
        Due.due("beyond", hall.date(Due.bits(-100000000.5), 0), NO_DATE);
        Due.due("far beyond", hall.date(Due.bits(1e300), 0), NO_DATE);
        Due.due("infinite", hall.date(Due.bits(INFINITE), 0), NO_DATE);
        Due.due("NaN", hall.date(Due.bits(Double.NaN), 1), NO_DATE);
        Due.due("another what", hall.date(0, 5), NO_DATE);
        Due.due("another what", hall.date(0, -1), NO_DATE);
    }

    public static void main(String[] args) {
        promise17Dial();
        promise18Clock();
        promise19Octet();
        promise20Measure();
        promise21Together();
        promise22Train();
        promise23Wheel();
        promise24Date();
        Due.finish("DeskPromisesTest");
    }
}
