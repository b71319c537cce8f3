/** Drawn formulas, asked of the class and of the oracle (promises 14 and 15, and the Terms). */
public final class FormulasTest {
    public static void main(String[] args) {
        Draws draws = new Draws(20261116);
        Formulas formulas = new Formulas(draws);
        int[] seen = new int[16];
        for (int run = 0; run < 1500; run++) {
            Hall hall = new Hall();
            for (int k = 0; k < 40; k++) {
                if (draws.oneIn(5)) {
                    hall.step(draws.real());
                    hall.tick(draws.below(3));
                }
                String text = draws.oneIn(4) ? formulas.truth(1 + draws.below(14))
                    : formulas.number(1 + draws.below(14));
                if (text.length() <= 2900) {
                    int got = hall.ask(text);
                    seen[got < 0 ? 15 : got]++;
                }
            }
        }
        System.out.println("sorts and jams seen: " + java.util.Arrays.toString(seen));
        Hall.finish("FormulasTest");
    }
}
