import java.time.LocalDate;

/** Promises 17 to 24 at their boundaries. */
public final class DeskBoundaryTest {
    private static final double INFINITE = Double.POSITIVE_INFINITY;
    private static final double MIN = Double.MIN_VALUE;
    private static final double MAX = Double.MAX_VALUE;
    private static final int NO_DATE = -1000000000;
    private static final long[] NOT_FINITE = {0x7FF0000000000000L, 0xFFF0000000000000L, 0x7FF0000000000001L, 0x7FFFFFFFFFFFFFFFL,
        0xFFF0000000000001L, -1};

    private static void dial(double x, int digits, String text) {
        TurningHall hall = new TurningHall();
        Due.due("dial of " + x, hall.dial(Due.bits(x), digits), text.length());
        Due.due("text of " + x, Due.text(hall), text);
        Due.due("count of " + x, hall.count(6), text.length());
    }

    private static void dialSigns() {
        Due.sentence("dial: - if it is below 0 (not of -0)");
        dial(0.0, 0, "0");
        dial(-0.0, 0, "0");
        dial(-0.0, 1, "0.0");
        dial(MIN, 0, "0");
        dial(-MIN, 0, "-0");
        dial(-MIN, 3, "-0.000");
        dial(-1, 0, "-1");
        dial(-0.5, 1, "-0.5");
        Due.sentence("dial: what it is without sign as a LONG, in digits");
        dial(9, 0, "9");
        dial(10, 0, "10");
        dial(99.99, 0, "99");
        dial(-99.99, 0, "-99");
        dial(100, 0, "100");
        dial(Math.nextDown(100.0), 0, "99");
        dial(1e17, 0, "100000000000000000");
        dial(Math.nextDown(1e17), 0, "99999999999999984");
        dial(1e18, 0, "1000000000000000000");
        dial(Math.nextDown(1e18), 0, "999999999999999872");
        dial(Math.nextDown(0x1p63), 0, "9223372036854774784");
        dial(0x1p63, 0, "9223372036854775807");
        dial(-0x1p63, 0, "-9223372036854775807");
        dial(Math.nextUp(0x1p63), 0, "9223372036854775807");
        dial(MAX, 0, "9223372036854775807");
        dial(-MAX, 18, "-9223372036854775807.000000000000000000");
        Due.sentence("dial: with digits above 0 a point and so many (at most 18)");
        dial(2.5, 0, "2");
        dial(2.5, 1, "2.5");
        dial(2.5, 2, "2.50");
        dial(2.5, 17, "2.50000000000000000");
        dial(2.5, 18, "2.500000000000000000");
        Due.sentence("dial: r being x without sign % 1.0, each time r = r * 10, the digit is r as an INT, r less that");
        dial(0.99, 1, "0.9");
        dial(0.999999, 3, "0.999");
        dial(Math.nextDown(1.0), 18, "0." + digits(Math.nextDown(1.0)));
        dial(0.1, 18, "0." + digits(0.1));
        dial(-0.7, 18, "-0." + digits(0.7));
        dial(123.456, 18, "123." + digits(123.456 % 1.0));
        dial(0x1p52 + 0.5, 1, "4503599627370496.0");
        dial(0x1p51 + 0.5, 2, "2251799813685248.50");
        dial(1e-18, 18, "0." + digits(1e-18));
    }

    /** Eighteen digits by the machine's own arithmetic. */
    private static String digits(double x) {
        StringBuilder s = new StringBuilder();
        double r = x;
        for (int k = 0; k < 18; k++) {
            r *= 10;
            s.append((int) r);
            r -= (int) r;
        }
        return s.toString();
    }

    private static void dialRefusals() {
        Due.sentence("dial: NONE, and TEXT stays, when it is not finite, or digits is not 0 .. 18");
        TurningHall hall = new TurningHall();
        Due.due("digits", hall.dial(0, 19), -1);
        Due.due("no TEXT yet", hall.count(6), 0);
        hall.dial(Due.bits(-3.25), 2);
        for (int digits : new int[] {-1, 19, 20, Integer.MAX_VALUE, Integer.MIN_VALUE}) {
            Due.due("digits " + digits, hall.dial(Due.bits(1), digits), -1);
        }
        for (long bits : NOT_FINITE) {
            Due.due("BITS " + bits, hall.dial(bits, 3), -1);
            Due.due("BITS " + bits, hall.clock(bits), -1);
        }
        Due.due("stays", Due.text(hall), "-3.25");
        Due.due("the greatest", hall.dial(Due.bits(MAX), 18), 38);
        Due.due("the longest", hall.dial(Due.bits(-MAX), 18), 39);
        Due.due("its last", hall.octet(38), '0');
        Due.due("behind", hall.octet(39), -1);
    }

    private static void clock(double x, String text) {
        TurningHall hall = new TurningHall();
        Due.due("clock of " + x, hall.clock(Due.bits(x)), text.length());
        Due.due("text of " + x, Due.text(hall), text);
    }

    private static void clockTexts() {
        Due.sentence("clock: with d the floor of x / 86400.0, s = x % 86400.0 ..: d as dial() writes it, a blank, then two digits each");
        clock(0, "0 00:00:00");
        clock(MIN, "0 00:00:00");
        clock(0.999, "0 00:00:00");
        clock(1, "0 00:00:01");
        clock(59, "0 00:00:59");
        clock(60, "0 00:01:00");
        clock(Math.nextDown(60.0), "0 00:00:59");
        clock(3599, "0 00:59:59");
        clock(3600, "0 01:00:00");
        clock(35999, "0 09:59:59");
        clock(36000, "0 10:00:00");
        clock(86399, "0 23:59:59");
        clock(86400, "1 00:00:00");
        clock(172799, "1 23:59:59");
        clock(864000, "10 00:00:00");
        Due.sentence("clock: if it is below 0 86400.0 more (and if that is 86400.0 then, 0.0)");
        clock(-0.0, "0 00:00:00");
        clock(-1, "-1 23:59:59");
        clock(-0.5, "-1 23:59:59");
        clock(-60, "-1 23:59:00");
        clock(-86399, "-1 00:00:01");
        clock(-86400, "-1 00:00:00");
        clock(-86400.5, "-2 23:59:59");
        clock(-86401, "-2 23:59:59");
        clock(-172800, "-2 00:00:00");
        // -2^-37 and 86400.0 are half a step below 86400.0, which is the even one; a step is 2^-36.
        clock(-0x1p-37, "-1 00:00:00");
        clock(-Math.nextUp(0x1p-37), "-1 23:59:59");
        clock(-1e-300, "-1 00:00:00");
        // The quotient is -0 then, and so its floor.
        clock(-MIN, "0 00:00:00");
        clock(-43200 * MIN, "0 00:00:00");
        clock(-43201 * MIN, "-1 00:00:00");
        clock(Math.nextDown(86400.0), "0 23:59:59");
        // So far out a step is 16 seconds.
        clock(Math.nextDown(86400.0 * 0x1p40), "1099511627775 23:59:44");
        clock(Math.nextUp(86400.0 * 0x1p40), "1099511627776 00:00:16");
        clock(0x1p63 * 86400, "9223372036854775807 00:00:00");
        clock(-0x1p70 * 86400, "-9223372036854775807 00:00:00");
        double s = MAX % 86400.0;
        clock(MAX, String.format("9223372036854775807 %02d:%02d:%02d", (int) s / 3600, (int) s / 60 % 60, (int) s % 60));
        Due.sentence("clock: NONE, and TEXT stays, when it is not finite");
        TurningHall hall = new TurningHall();
        hall.clock(Due.bits(61));
        for (long bits : NOT_FINITE) {
            Due.due("BITS " + bits, hall.clock(bits), -1);
            Due.due("stays", Due.text(hall), "0 00:01:01");
        }
    }

    private static void octet() {
        Due.sentence("octet: Byte k of TEXT; NONE when there is none");
        TurningHall hall = new TurningHall();
        Due.due("no TEXT", hall.octet(0), -1);
        Due.due("no TEXT", hall.octet(-1), -1);
        hall.dial(Due.bits(-12.5), 1);
        String text = "-12.5";
        for (int k = 0; k < 5; k++) {
            Due.due("octet " + k, hall.octet(k), text.charAt(k));
        }
        for (int k : new int[] {5, 6, 38, 39, 63, 64, 65, Integer.MAX_VALUE, -1, -5, Integer.MIN_VALUE}) {
            Due.due("octet " + k, hall.octet(k), -1);
        }
        hall.dial(0, 0);
        Due.due("one alone", hall.octet(0), '0');
        Due.due("none of the former", hall.octet(1), -1);
    }

    private static double gcd(double a, double b) {
        double x = Math.abs(a);
        double y = Math.abs(b);
        while (y != 0) {
            double rest = x % y;
            x = y;
            y = rest;
        }
        return x;
    }

    private static void measure() {
        Due.sentence("measure: gcd of two DOUBLEs by their BITS, as a formula has it");
        double[] edges = {0.0, -0.0, MIN, -MIN, 3 * MIN, Double.MIN_NORMAL, 1, -1, 0.1, 0.3, 12, -18, 0x1p53, 0x1p53 - 1, 1e308, MAX, -MAX};
        TurningHall hall = new TurningHall();
        for (double a : edges) {
            for (double b : edges) {
                Due.due("measure " + a + " " + b, hall.measure(Due.bits(a), Due.bits(b)), Due.bits(gcd(a, b)));
            }
        }
        Due.due("of zeros", hall.measure(Long.MIN_VALUE, Long.MIN_VALUE), 0);
        Due.sentence("measure: -1 (which is no number's) when one is not finite");
        for (long bits : NOT_FINITE) {
            Due.due("the first", hall.measure(bits, Due.bits(1)), -1);
            Due.due("the second", hall.measure(Due.bits(1), bits), -1);
            Due.due("with 0", hall.measure(bits, 0), -1);
            Due.due("both", hall.measure(bits, bits), -1);
        }
    }

    private static void together() {
        Due.sentence("together: with g gcd(a, b): q = b / g, m = a * q; the BITS of m; -1 when one is not finite or not above 0, or m is not finite");
        double[] edges = {MIN, 3 * MIN, Double.MIN_NORMAL, 0.1, 0.3, 0.75, 1, 12, 18, 0x1p53 - 1, 0x1p53, 1e154, 0x1p512, 0x1p511 * 3, 0x1p1023,
            MAX, Math.nextDown(MAX)};
        TurningHall hall = new TurningHall();
        for (double a : edges) {
            for (double b : edges) {
                double m = a * (b / gcd(a, b));
                Due.due("together " + a + " " + b, hall.together(Due.bits(a), Due.bits(b)), Double.isInfinite(m) ? -1 : Due.bits(m));
            }
        }
        Due.due("the greatest", hall.together(Due.bits(MAX), Due.bits(MAX)), Due.bits(MAX));
        Due.due("beyond it", hall.together(Due.bits(0x1p1023), Due.bits(0x1p1022 * 3)), -1);
        Due.due("as great as can be", hall.together(Due.bits(0x1p1022), Due.bits(0x1p1023)), Due.bits(0x1p1023));
        Due.due("the least", hall.together(1, 1), 1);
        for (double none : new double[] {0.0, -0.0, -MIN, -1, -MAX, INFINITE, -INFINITE, Double.NaN}) {
            Due.due("first " + none, hall.together(Due.bits(none), Due.bits(1)), -1);
            Due.due("second " + none, hall.together(Due.bits(1), Due.bits(none)), -1);
        }
        for (long bits : NOT_FINITE) {
            Due.due("first " + bits, hall.together(bits, Due.bits(1)), -1);
            Due.due("second " + bits, hall.together(Due.bits(1), bits), -1);
        }
    }

    /** Every row in turn, by the machine's own doubles: the first that lies nearest. */
    private static void train(double t, int stages, int low, int high) {
        double best = INFINITE;
        int[] due = new int[4];
        for (int n1 = low; n1 <= high; n1++) {
            for (int m1 = low; m1 <= high; m1++) {
                double one = (double) n1 / m1;
                for (int n2 = low; n2 <= (stages == 1 ? low : high); n2++) {
                    for (int m2 = low; m2 <= (stages == 1 ? low : high); m2++) {
                        double far = Math.abs((stages == 1 ? one : one * ((double) n2 / m2)) - t);
                        if (far < best) {
                            best = far;
                            due = stages == 1 ? new int[] {n1, m1, 0, 0} : new int[] {n1, m1, n2, m2};
                        }
                    }
                }
            }
        }
        TurningHall hall = new TurningHall();
        String call = "train " + t + " " + stages + " " + low + " " + high;
        Due.due(call, hall.train(Due.bits(t), stages, low, high), Due.bits(best));
        for (int k = 0; k < 4; k++) {
            Due.due(call + " wheel " + k, hall.wheel(k), due[k]);
        }
        Due.due(call + " wheels", hall.count(7), 2 * stages);
    }

    private static void trains() {
        Due.sentence("train: that for which the value v lies nearest; of several the first as a row n1, m1, n2, m2");
        double[] goals = {MIN, 0.01, 0.5, 0.9, 1, Math.nextUp(1.0), Math.nextDown(1.0), 1.1, 4.0 / 3, 2.5, Math.PI, 7.5, 50, 1e17, MAX};
        for (double t : goals) {
            train(t, 1, 4, 4);
            train(t, 1, 4, 34);
            train(t, 1, 170, 200);
            train(t, 2, 4, 4);
            train(t, 2, 4, 9);
            train(t, 2, 196, 200);
        }
        train(Math.PI, 2, 4, 34);
        train(Math.E / 2, 2, 170, 200);
        // As far above as below: 9/8 lies between 1 and 5/4; the row of 4 and 4 is the first.
        train(1.125, 1, 4, 5);
        train(0.9, 1, 4, 5);
        TurningHall even = new TurningHall();
        even.train(Due.bits(1.125), 1, 4, 5);
        Due.due("the first of two", even.wheel(0), 4);
        Due.due("the first of two", even.wheel(1), 4);
    }

    private static void trainRefusals() {
        Due.sentence("train: stages (1, 2); 4 <= low <= high <= low + 30, high <= 200; -1, and the latest train stays, when t is not finite ..");
        TurningHall hall = new TurningHall();
        Due.due("none ahead of any", hall.train(Due.bits(1), 1, 3, 4), -1);
        Due.due("no wheels", hall.count(7), 0);
        hall.train(Due.bits(1.25), 1, 4, 5);
        for (int stages : new int[] {0, 3, -1, -2, Integer.MAX_VALUE, Integer.MIN_VALUE}) {
            Due.due("stages " + stages, hall.train(Due.bits(1), stages, 4, 5), -1);
        }
        int[][] rows = {{3, 3}, {3, 4}, {5, 4}, {4, 35}, {170, 201}, {201, 201}, {180, 201}, {171, 202}, {0, 0}, {-4, 4}, {169, 200},
            {Integer.MIN_VALUE, Integer.MIN_VALUE + 30}, {Integer.MIN_VALUE, 4}, {4, Integer.MIN_VALUE}, {4, Integer.MAX_VALUE},
            {Integer.MAX_VALUE, Integer.MAX_VALUE}, {Integer.MAX_VALUE - 30, Integer.MAX_VALUE}, {Integer.MIN_VALUE, Integer.MAX_VALUE}};
        for (int[] row : rows) {
            Due.due("1 of " + row[0] + " .. " + row[1], hall.train(Due.bits(1), 1, row[0], row[1]), -1);
            Due.due("2 of " + row[0] + " .. " + row[1], hall.train(Due.bits(1), 2, row[0], row[1]), -1);
        }
        for (double t : new double[] {0.0, -0.0, -MIN, -1, INFINITE, -INFINITE, Double.NaN}) {
            Due.due("for " + t, hall.train(Due.bits(t), 1, 4, 5), -1);
        }
        for (long bits : NOT_FINITE) {
            Due.due("for BITS " + bits, hall.train(bits, 2, 4, 5), -1);
        }
        Due.due("the latest stays", hall.wheel(0), 5);
        Due.due("the latest stays", hall.wheel(1), 4);
        Due.due("the latest stays", hall.count(7), 2);
        int[][] good = {{4, 4}, {4, 5}, {4, 34}, {5, 5}, {5, 35}, {169, 199}, {170, 200}, {199, 200}, {200, 200}};
        for (int[] row : good) {
            Due.due("of " + row[0] + " .. " + row[1], hall.train(Due.bits(1), 1, row[0], row[1]), 0);
            Due.due("n1 of " + row[0] + " .. " + row[1], hall.wheel(0), row[0]);
        }
        Due.due("for the least", hall.train(1, 1, 4, 4), Due.bits(1));
        Due.due("for the greatest", hall.train(Due.bits(MAX), 1, 4, 4), Due.bits(MAX));
    }

    private static void wheel() {
        Due.sentence("wheel: Wheel k of the latest train (n1, m1, n2, m2); 0 when there is none such");
        TurningHall hall = new TurningHall();
        for (int k = -1; k <= 4; k++) {
            Due.due("ahead of any " + k, hall.wheel(k), 0);
        }
        hall.train(Due.bits(30.0 / 16), 2, 4, 6);
        int[] due = {5, 4, 6, 4};
        for (int k = 0; k < 4; k++) {
            Due.due("wheel " + k, hall.wheel(k), due[k]);
        }
        for (int k : new int[] {-1, 4, 5, Integer.MAX_VALUE, Integer.MIN_VALUE}) {
            Due.due("wheel " + k, hall.wheel(k), 0);
        }
        hall.train(Due.bits(1.5), 1, 4, 6);
        Due.due("n1", hall.wheel(0), 6);
        Due.due("m1", hall.wheel(1), 4);
        Due.due("of one stage no third", hall.wheel(2), 0);
        Due.due("of one stage no fourth", hall.wheel(3), 0);
        Due.plan(hall, "show a:int=1;");
        Due.due("stays with a plan", hall.wheel(0), 6);
    }

    private static void date(double day) {
        LocalDate date = LocalDate.ofEpochDay((long) Math.floor(day));
        int[] due = {date.getYear(), date.getMonthValue(), date.getDayOfMonth(), date.getDayOfWeek().getValue() - 1, date.getDayOfYear()};
        TurningHall hall = new TurningHall();
        for (int what = 0; what < 5; what++) {
            Due.due("date " + day + " " + what, hall.date(Due.bits(day), what), due[what]);
        }
    }

    private static void dates() {
        Due.sentence("date: its floor as a LONG; day 0 is 1970, January 1");
        for (double day : new double[] {-1, -MIN, -0.0, 0, MIN, Math.nextDown(1.0), 1, -1.5, -0.5, -2}) {
            date(day);
        }
        Due.sentence("date: by the leap years of today's calendar, at all times: 0 year (0 ahead of 1, below 0 ahead of that) ..");
        int[] years = {-271821, -400, -100, -5, -4, -1, 0, 1, 4, 99, 100, 101, 399, 400, 401, 1582, 1599, 1600, 1700, 1899, 1900, 1969, 1970, 1972,
            1999, 2000, 2001, 2024, 2026, 2100, 2400, 9999, 10000, 275759};
        for (int year : years) {
            for (int month = year == -271821 ? 5 : 1; month <= 12; month++) {
                LocalDate first = LocalDate.of(year, month, 1);
                date(first.toEpochDay());
                date(first.toEpochDay() + 0.75);
                date(first.plusMonths(1).toEpochDay() - 1);
            }
        }
        Due.sentence("date: -1000000000 for another what, when it is not finite, or the day number is beyond -100000000 .. 100000000");
        date(100000000);
        date(Math.nextDown(100000001.0));
        date(99999999);
        date(-100000000);
        date(-99999999.5);
        TurningHall hall = new TurningHall();
        double[] beyond = {100000001, 100000002, Math.nextDown(-100000000.0), -100000001, 0x1p31, 0x1p32, -0x1p32, 0x1p63, -0x1p63, 0x1p64, MAX, -MAX};
        for (double day : beyond) {
            for (int what = 0; what < 5; what++) {
                Due.due("date " + day + " " + what, hall.date(Due.bits(day), what), NO_DATE);
            }
        }
        for (long bits : NOT_FINITE) {
            Due.due("date of BITS " + bits, hall.date(bits, 0), NO_DATE);
        }
        for (int what : new int[] {-1, 5, 6, Integer.MAX_VALUE, Integer.MIN_VALUE}) {
            Due.due("what " + what, hall.date(0, what), NO_DATE);
        }
        Due.due("what 0", hall.date(0, 0), 1970);
        Due.due("what 4", hall.date(0, 4), 1);
    }

    public static void main(String[] args) {
        dialSigns();
        dialRefusals();
        clockTexts();
        octet();
        measure();
        together();
        trains();
        trainRefusals();
        wheel();
        dates();
        Due.finish("DeskBoundaryTest");
    }
}
