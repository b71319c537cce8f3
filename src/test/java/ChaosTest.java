/** Calls in any order with any numbers, against the oracle: none may throw, whatever comes. */
public final class ChaosTest {
    private static final int[] INTS = {Integer.MIN_VALUE, Integer.MIN_VALUE + 1, -1000000, -101, -2, -1, 0, 1, 2, 3, 4, 5,
        6, 7, 8, 18, 19, 30, 31, 32, 39, 40, 41, 63, 64, 65, 99, 100, 101, 111, 112, 199, 200, 201, 207, 208, 500, 501,
        3000, 1000000, Integer.MAX_VALUE - 1, Integer.MAX_VALUE};
    private static final String[] TEXTS = {"", " ", "part a:int=1 then a+1;bell b when a%3==0;cam c=1,2,3;",
        "part x:double=0.5 then x*x*4-x;show y:float=(float)x/(ticks%3);part z:truth=x>1 then !z;bell k when z;",
        "show s:double=1.0/(ticks-1);part l:long=1 then l*3;show m:byte=(byte)l;", "part", "show q:int=;", "a", "1/0",
        "x>1", "a>10", "true", "old(a)+ticks", "c[a%4]", "z||k", "!z", "ticks%7l==0", "gcd(step,0.5)", "((((", "&",
        "-2147483647-1", "1p1100", "l<0", "least(a,a)", "bell b when true;bell d when ticks%2==0;"};

    private static int any(Draws draws) {
        return draws.oneIn(4) ? draws.random.nextInt() : INTS[draws.below(INTS.length)];
    }

    private static long anyLong(Draws draws) {
        return draws.oneIn(3) ? draws.whole() : draws.real();
    }

    private static void texts(Hall hall, Draws draws) {
        switch (draws.below(5)) {
            case 0, 1:
                hall.plan(draws.oneOf(TEXTS));
                break;
            case 2:
                hall.ask(draws.oneOf(TEXTS));
                break;
            case 3:
                hall.await(draws.oneOf(TEXTS), any(draws));
                break;
            default:
                hall.end(any(draws));
        }
    }

    private static void someCall(Hall hall, Draws draws) {
        switch (draws.below(20)) {
            case 0:
                hall.count(any(draws));
                break;
            case 1, 2:
                hall.thing(any(draws), draws.oneIn(2) ? draws.below(7) : any(draws));
                break;
            case 3:
                hall.letter(any(draws), draws.oneIn(2) ? draws.below(3) : any(draws));
                break;
            case 4, 5:
                hall.value(draws.oneIn(2) ? draws.below(4) : any(draws), any(draws));
                break;
            case 6, 7:
                hall.set(draws.oneIn(2) ? draws.below(4) : any(draws), anyLong(draws));
                break;
            case 8:
                hall.step(anyLong(draws));
                break;
            case 9, 10:
                hall.tick(draws.oneIn(3) ? draws.below(70) : any(draws));
                break;
            case 11:
                hall.strike(any(draws), draws.oneIn(2) ? draws.below(2) : any(draws));
                break;
            case 12:
                hall.dial(anyLong(draws), any(draws));
                break;
            case 13:
                hall.clock(anyLong(draws));
                hall.text();
                break;
            case 14:
                hall.measure(anyLong(draws), anyLong(draws));
                hall.together(anyLong(draws), anyLong(draws));
                break;
            case 15:
                hall.train(anyLong(draws), draws.below(4), any(draws), any(draws));
                break;
            case 16:
                hall.date(anyLong(draws), draws.oneIn(2) ? draws.below(5) : any(draws));
                break;
            case 17:
                hall.keep(any(draws));
                hall.keep(draws.below(4));
                break;
            case 18:
                hall.back(any(draws));
                hall.back(draws.below(4));
                break;
            default:
                texts(hall, draws);
        }
    }

    public static void main(String[] args) {
        Draws draws = new Draws(512);
        for (int run = 0; run < 1500; run++) {
            Hall hall = new Hall();
            texts(hall, draws);
            for (int k = 0; k < 150; k++) {
                someCall(hall, draws);
            }
            hall.lookAround();
        }
        Hall.finish("ChaosTest");
    }
}
