/** Plans and formulas that were spoilt here and there: the kind and the place of each fault, against the oracle. */
public final class FaultsTest {
    private static final int[][] SEEN = new int[2][5];

    private static String spoil(Draws draws, String text) {
        if (text.isEmpty()) {
            return text;
        }
        int at = draws.below(text.length());
        int stop = Math.min(text.length(), at + draws.below(4));
        String piece = draws.oneOf("", " ", "(", ")", "[", "]", "-", "!", "?", ":", ";", ",", "=", "<", "==", "&&", "&",
            "|", "+", "*", "1", "0.", ".5", "p", "1p5", "1f", "1l", "99999999999", "1.5l", "abcdefghijk", "part",
            "then", "when", "int", "(int)", "old(", "floor(", "least(", "true", "\t", "\u00e4", "x", "step", "1p1100",
            "1p1101", "0000000000000001.0", "12345.67890123456", "a1", "b2", "Z3", "gcd(1,2)", "1 < 2 < 3",
            "1 == 2 != 3", "1 < 2 == 3 > 4", "_", "$", ".", "'", "\"", "\\", "@", "#", "\u0000", "\r");
        String rest = draws.oneIn(2) ? text.substring(at) : text.substring(stop);
        return text.substring(0, at) + piece + rest;
    }

    private static void plan(Draws draws) {
        Plans plans = new Plans(draws);
        String text = plans.draw(1 + draws.below(8), 1 + draws.below(6));
        int times = draws.below(3);
        for (int k = 0; k < times; k++) {
            text = spoil(draws, text);
        }
        if (text.length() <= 3000) {
            Hall hall = new Hall();
            hall.plan(text);
            hall.count(0);
            hall.count(3);
            SEEN[0][hall.fault()]++;
        }
    }

    private static void ask(Draws draws) {
        Plans plans = new Plans(draws);
        Hall hall = new Hall();
        hall.plan(plans.draw(6, 3));
        for (int k = 0; k < 10; k++) {
            String text = draws.oneIn(2) ? plans.formulas().truth(8) : plans.formulas().number(8);
            int times = draws.below(3);
            for (int n = 0; n < times; n++) {
                text = spoil(draws, text);
            }
            hall.ask(text);
            SEEN[1][hall.fault()]++;
            hall.await(text, draws.below(3));
        }
    }

    /** Rows of drawn tokens, most of which are no formula for long. */
    private static void tokens(Draws draws) {
        String[] all = {"1", "2", "a", "(", ")", "-", "!", "+", "*", "<", "==", "&&", "||", "?", ":", "[", "]", "(int)",
            "old", "floor", "least", ",", "true", "1.5", "%", "ticks", "step", "(truth)", "(double)"};
        Hall hall = new Hall();
        hall.plan("part a:int=1 then 2; cam c=1,2;");
        for (int k = 0; k < 50; k++) {
            StringBuilder text = new StringBuilder();
            int length = 1 + draws.below(9);
            for (int n = 0; n < length; n++) {
                text.append(draws.oneOf(all)).append(draws.oneOf(" ", "", " "));
            }
            hall.ask(text.toString());
            SEEN[1][hall.fault()]++;
        }
    }

    public static void main(String[] args) {
        Draws draws = new Draws(4);
        for (int k = 0; k < 20000; k++) {
            plan(draws);
        }
        for (int k = 0; k < 4000; k++) {
            ask(draws);
            tokens(draws);
        }
        System.out.println("kinds of fault seen: plans " + java.util.Arrays.toString(SEEN[0]) + ", asked "
            + java.util.Arrays.toString(SEEN[1]));
        Hall.finish("FaultsTest");
    }
}
