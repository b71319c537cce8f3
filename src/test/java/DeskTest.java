/** The desk with drawn numbers, against the oracle (promises 17 to 24). */
public final class DeskTest {
    private static void texts(Draws draws) {
        Hall hall = new Hall();
        for (int k = 0; k < 12; k++) {
            hall.dial(draws.real(), draws.below(21) - 1);
            hall.text();
            hall.clock(draws.real());
            hall.text();
            hall.clock(Double.doubleToRawLongBits((draws.below(400000) - 200000) * draws.random.nextDouble()));
            hall.text();
        }
    }

    private static void measures(Draws draws) {
        Hall hall = new Hall();
        for (int k = 0; k < 100; k++) {
            long a = draws.real();
            long b = draws.real();
            hall.measure(a, b);
            hall.together(a, b);
            hall.together(a & Long.MAX_VALUE, b & Long.MAX_VALUE);
            hall.together(Double.doubleToRawLongBits(1 + draws.below(1000)), Double.doubleToRawLongBits(1
                + draws.below(1000) / 4.0));
        }
    }

    private static void trains(Draws draws, int width) {
        Hall hall = new Hall();
        for (int k = 0; k < 4; k++) {
            int low = 3 + draws.below(draws.oneIn(3) ? 200 : 60);
            int high = low + draws.below(width);
            double near = Math.exp(draws.random.nextGaussian());
            double ratio = (double) (low + 1) / high * (high - 1) / (low + 2);
            long t = new long[] {draws.real() & Long.MAX_VALUE, draws.real(), Double.doubleToRawLongBits(near),
                Double.doubleToRawLongBits(ratio), Double.doubleToRawLongBits(near)}[draws.below(5)];
            hall.train(t, draws.below(2) + 1, low, high);
        }
        hall.train(Double.doubleToRawLongBits(1.5), draws.below(5) - 1, draws.below(30), draws.below(80));
    }

    private static void dates(Draws draws) {
        Hall hall = new Hall();
        for (int k = 0; k < 80; k++) {
            double day = draws.oneIn(3) ? draws.random.nextInt() / 20.0 : (draws.below(2000000) - 1000000) / 2.0;
            long bits = draws.oneIn(6) ? draws.real() : Double.doubleToRawLongBits(day);
            for (int what = -1; what <= 5; what++) {
                hall.date(bits, what);
            }
        }
    }

    /** Every day of 400 years and some more, as the calendar comes round in them. */
    private static void everyDay() {
        for (int from = -60000; from < 90000; from += 100) {
            Hall hall = new Hall();
            for (int day = from; day < from + 100; day++) {
                for (int what = 0; what < 5; what++) {
                    hall.date(Double.doubleToRawLongBits(day), what);
                }
            }
        }
    }

    public static void main(String[] args) {
        everyDay();
        Draws draws = new Draws(86400);
        for (int k = 0; k < 1500; k++) {
            texts(draws);
            measures(draws);
            dates(draws);
        }
        for (int k = 0; k < 800; k++) {
            trains(draws, 8);
        }
        for (int k = 0; k < 25; k++) {
            trains(draws, 31);
        }
        Hall.finish("DeskTest");
    }
}
