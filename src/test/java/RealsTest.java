/** Reals and wholes of drawn BITS through every sign and function, against the machine's own (Terms, NUMBERS). */
public final class RealsTest {
    private static final String DOUBLES = "part a:double=0 then a; part b:double=0 then b;"
        + "show c:double=a+b; show d:double=a-b; show e:double=a*b; show f:double=a/b; show g:double=a%b;"
        + "show h:double=gcd(a,b); show i:double=least(a,b); show j:double=most(a,b); show k:truth=a<b;"
        + "show l:truth=a<=b; show m:truth=a>b; show n:truth=a>=b; show o:truth=a==b; show p:truth=a!=b;"
        + "show q:double=floor(a); show r:double=ceil(a); show s:double=rint(a); show t:double=abs(a);"
        + "show u:double=-a; show v:byte=(byte)a; show w:short=(short)a; show x:char=(char)a;"
        + "show y:int=(int)a; show z:long=(long)a; show A:float=(float)a;";
    private static final String FLOATS = "part a:float=0 then a; part b:float=0 then b;"
        + "show c:float=a+b; show d:float=a-b; show e:float=a*b; show f:float=a/b; show g:float=a%b;"
        + "show h:double=gcd(a,b); show i:float=least(a,b); show j:float=most(a,b); show k:truth=a<b;"
        + "show l:truth=a<=b; show m:truth=a>b; show n:truth=a>=b; show o:truth=a==b; show p:truth=a!=b;"
        + "show q:double=floor(a); show r:double=ceil(a); show s:double=rint(a); show t:double=abs(a);"
        + "show u:float=-a; show v:byte=(byte)a; show w:short=(short)a; show x:char=(char)a;"
        + "show y:int=(int)a; show z:long=(long)a; show A:double=a; show B:double=a+1.5; show C:float=a*3l;";
    private static final String LONGS = "part a:long=0 then a; part b:long=0 then b;"
        + "show c:long=a+b; show d:long=a-b; show e:long=a*b; show f:long=a/b; show g:long=a%b;"
        + "show h:double=gcd(a,b); show i:long=least(a,b); show j:long=most(a,b); show k:truth=a<b;"
        + "show l:truth=a<=b; show m:truth=a>b; show n:truth=a>=b; show o:truth=a==b; show p:truth=a!=b;"
        + "show q:double=a; show r:float=a; show s:int=(int)a; show t:char=(char)a; show u:long=-a;"
        + "show v:byte=(byte)a; show w:short=(short)a; show x:float=(float)a; show y:double=abs(a);";
    private static final String INTS = "part a:int=0 then a; part b:int=0 then b;"
        + "show c:int=a+b; show d:int=a-b; show e:int=a*b; show f:int=a/b; show g:int=a%b;"
        + "show h:double=gcd(a,b); show i:int=least(a,b); show j:int=most(a,b); show k:truth=a<b;"
        + "show l:float=a; show m:double=a; show n:int=-a; show o:char=(char)a; show p:int=-(char)a;"
        + "show q:int=(byte)a*(short)b; show r:int=(char)a/(byte)b; show s:float=a+0.0f; show t:long=a;";

    private static void run(Draws draws, String plan, int kind) {
        Hall hall = new Hall();
        int things = hall.plan(plan);
        for (int k = 0; k < 15; k++) {
            long a = draw(draws, kind);
            long b = draws.oneIn(10) ? a : draw(draws, kind);
            hall.set(0, a);
            hall.set(1, b);
            hall.tick(1);
            for (int i = 0; i < things; i++) {
                hall.value(i, 0);
                hall.thing(i, 4);
            }
        }
    }

    private static long draw(Draws draws, int kind) {
        if (kind == 7) {
            return draws.real();
        }
        if (kind == 6) {
            return draws.oneIn(3) ? draws.random.nextInt()
                : Float.floatToRawIntBits((float) Double.longBitsToDouble(draws.real()));
        }
        return draws.whole();
    }

    public static void main(String[] args) {
        Draws draws = new Draws(7);
        for (int k = 0; k < 1500; k++) {
            run(draws, DOUBLES, 7);
            run(draws, FLOATS, 6);
        }
        for (int k = 0; k < 500; k++) {
            run(draws, LONGS, 5);
            run(draws, INTS, 4);
        }
        Hall.finish("RealsTest");
    }
}
