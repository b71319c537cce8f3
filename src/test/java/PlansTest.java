/** Drawn plans and drawn runs of calls on them, against the oracle. */
public final class PlansTest {
    private static int good;
    private static int tried;

    private static void someCall(Hall hall, Draws draws, Plans plans) {
        int things = Math.max(hall.count(0), 1);
        switch (draws.below(16)) {
            case 0, 1:
                hall.set(draws.below(things + 1), draws.oneIn(2) ? draws.real() : draws.whole());
                break;
            case 2:
                hall.step(draws.real());
                break;
            case 3, 4, 5:
                hall.tick(draws.oneIn(10) ? 40 + draws.below(30) : draws.below(4));
                break;
            case 6, 7:
                hall.ask(plans.formulas().number(1 + draws.below(8)));
                break;
            case 8:
                hall.await(plans.formulas().truth(1 + draws.below(8)), draws.below(20) - 1);
                break;
            case 9:
                hall.keep(draws.below(6) - 1);
                break;
            case 10, 11:
                hall.back(draws.below(6) - 1);
                break;
            case 12:
                hall.value(draws.below(things), draws.below(34) - 1);
                break;
            case 13:
                hall.letter(new int[] {0, 100, 200}[draws.below(3)] + draws.below(5) - 1, draws.below(12) - 1);
                break;
            case 14:
                hall.strike(draws.below(70) - 1, draws.below(4) - 1);
                break;
            default:
                hall.lookAround();
        }
    }

    public static void main(String[] args) {
        Draws draws = new Draws(26);
        for (int run = 0; run < 700; run++) {
            Hall hall = new Hall();
            Plans plans = new Plans(draws);
            for (int k = 0; k < 4; k++) {
                String text = plans.draw(1 + draws.below(16), 1 + draws.below(9));
                if (text.length() <= 3000) {
                    tried++;
                    good += hall.plan(text) >= 0 ? 1 : 0;
                }
                hall.lookAround();
                for (int call = 0; call < 20; call++) {
                    someCall(hall, draws, plans);
                }
                hall.lookAround();
            }
        }
        System.out.println(good + " plans of " + tried + " were without a fault");
        Hall.finish("PlansTest");
    }
}
