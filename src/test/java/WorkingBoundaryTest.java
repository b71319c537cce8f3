import java.lang.reflect.Field;

/** WORKING, new plans, TICKS and STRIKES at their boundaries. */
public final class WorkingBoundaryTest {
    private static final double MIN = Double.MIN_VALUE;
    private static final double MAX = Double.MAX_VALUE;

    private static void leftAndRight() {
        Due.sentence("Parts are worked out from the left, then the sign");
        Due.jams("1/0+1.0/0", 1);
        Due.jams("1.0/0+1/0", 2);
        Due.jams("1p1023*2<1/0", 3);
        Due.jams("least(1.0/0,1/0)", 2);
        Due.jams("1/(1/0)", 1);
        Due.jams("(1.0%0)/0", 2);
        Due.told("8-4-2", 4, 2);
        Due.told("8/4/2", 4, 1);
        Due.told("7%4%2", 4, 1);
        Due.told("2*7/4", 4, 3);
        Due.told("7/4*2", 4, 2);
        Due.told("1+2*3", 4, 7);
        Due.told("-2-3", 4, -5);
        Due.told("1p1023-1p1023+1p1023", 0x1p1023);
        Due.jams("1p1023+1p1023-1p1023", 3);
        Due.sentence("of && the right one only if the left is true, of || only if it is false, of ? one of the two");
        Due.told("false&&1/0==0", 0, 0);
        Due.jams("true&&1/0==0", 1);
        Due.told("true||1/0==0", 0, 1);
        Due.jams("false||1/0==0", 1);
        Due.jams("1/0==0&&false", 1);
        Due.jams("1/0==0||true", 1);
        Due.told("false&&1/0==0||true", 0, 1);
        Due.told("true||1/0==0&&1/0==0", 0, 1);
        Due.told("false&&1/0==0&&1.0/0==0", 0, 0);
        Due.jams("false||true&&1/0==0", 1);
        Due.told("true?1:1/0", 4, 1);
        Due.told("false?1/0:2", 4, 2);
        Due.jams("true?1/0:2", 1);
        Due.jams("false?1:1.0/0", 2);
        Due.jams("1/0==0?1:2", 1);
        Due.told("false?1/0:false?1/0:3", 4, 3);
        Due.told("true?true?1:1/0:1/0", 4, 1);
        Due.told("(false?1:2)+3", 4, 5);
        Due.told("(true?1:2)+3", 4, 4);
        Due.told("(false?true:false)||true", 0, 1);
        Due.told("(true?true:false)&&!true", 0, 0);
        Due.told("(true||1/0==0)&&!(false&&1/0==0)?7:1/0", 4, 7);
    }

    private static double held(String word, double x) {
        switch (word) {
            case "floor":
                return Math.floor(x);
            case "ceil":
                return Math.ceil(x);
            case "rint":
                return Math.rint(x);
            default:
                return Math.abs(x);
        }
    }

    private static void toWholes() {
        Due.sentence("- x of a real turns its sign round");
        Due.told("-0.0", -0.0);
        Due.told("--0.0", 0.0);
        Due.told("-0f", -0f);
        Due.told("0-0.0", 0.0);
        Due.told("-(0.0)", -0.0);
        Due.told("-1p-1074", -MIN);
        Due.sentence("floor, ceil, rint (halves to even) keep -0 (and give -0 where a number below 0 comes to 0)");
        Due.told("floor(-0.0)", -0.0);
        Due.told("ceil(-0.0)", -0.0);
        Due.told("rint(-0.0)", -0.0);
        Due.told("floor(0.0)", 0.0);
        Due.told("ceil(0.0)", 0.0);
        Due.told("ceil(-0.9)", -0.0);
        Due.told("ceil(-1p-1074)", -0.0);
        Due.told("ceil(1p-1074)", 1.0);
        Due.told("floor(-1p-1074)", -1.0);
        Due.told("floor(1p-1074)", 0.0);
        Due.told("rint(-0.5)", -0.0);
        Due.told("rint(0.5)", 0.0);
        Due.told("rint(1.5)", 2.0);
        Due.told("rint(2.5)", 2.0);
        Due.told("rint(-1.5)", -2.0);
        Due.told("rint(-2.5)", -2.0);
        Due.told("floor(0)", 0.0);
        double[] edges = {0.0, MIN, 0.5, 1, 1.5, 2, 2.5, 3.5, 0x1p31, 0x1p51 + 0.5, 0x1p52 - 0.5, 0x1p52 - 1.5, 0x1p52, 0x1p52 + 1,
            0x1p53, 0x1p53 + 2, 0x1p62, 0x1p63, 0x1p64, MAX};
        for (double edge : edges) {
            for (double x : new double[] {edge, Math.nextDown(edge), edge == MAX ? edge : Math.nextUp(edge)}) {
                TurningHall hall = new TurningHall();
                for (String word : new String[] {"floor", "ceil", "rint", "abs"}) {
                    hall.step(Due.bits(x));
                    Due.told(hall, word + "(step)", 7, Due.bits(held(word, x)));
                    hall.step(Due.bits(-x));
                    Due.told(hall, word + "(step)", 7, Due.bits(held(word, -x)));
                }
            }
        }
        Due.told("abs(-0.0)", 0.0);
        Due.told("abs(-0f)", 0.0);
    }

    private static void leastAndMost() {
        Due.sentence("least, most of reals: -0 is below 0");
        Due.told("least(0.0,-0.0)", -0.0);
        Due.told("least(-0.0,0.0)", -0.0);
        Due.told("most(0.0,-0.0)", 0.0);
        Due.told("most(-0.0,0.0)", 0.0);
        Due.told("least(0f,-0f)", -0f);
        Due.told("most(-0f,0f)", 0f);
        Due.told("least(-0.0,-0.0)", -0.0);
        Due.told("most(-0.0,-0.0)", -0.0);
        Due.told("most(-0.0,0)", 0.0);
        Due.told("least(-1p-1074,-0.0)", -MIN);
        Due.told("most(-1p-1074,-0.0)", -0.0);
        Due.told("least(1p-1074,0.0)", 0.0);
        Due.told("least(-1.5,-2.5)", -2.5);
        Due.told("most(-1.5f,-2.5f)", -1.5f);
        Due.told("least(2,2)", 4, 2);
        Due.told("least(-9223372036854775807l-1,9223372036854775807l)", 5, Long.MIN_VALUE);
        Due.told("most(-9223372036854775807l-1,9223372036854775807l)", 5, Long.MAX_VALUE);
        Due.told("most(-1,(char)65535)", 4, 65535);
        // Where they are compared both zeros are the same.
        Due.told("-0.0==0.0", 0, 1);
        Due.told("-0.0<0.0", 0, 0);
        Due.told("-0.0<=0.0", 0, 1);
        Due.told("0f!=-0f", 0, 0);
        Due.told("0f>-0f", 0, 0);
        Due.told("0f>=-0f", 0, 1);
        Due.told("-1p-1074<-0.0", 0, 1);
        Due.told("-1.5<-1.25", 0, 1);
        Due.told("1p-1074>0.0", 0, 1);
        Due.told("1<=1", 0, 1);
        Due.told("1<1", 0, 0);
        Due.told("1>=1l", 0, 1);
        Due.told("1>1", 0, 0);
        Due.sentence("gcd(a, b): both without sign; as long as b is not 0: a, b become b, a % b; then a");
        Due.told("gcd(0,0)", 0.0);
        Due.told("gcd(-0.0,-0.0)", 0.0);
        Due.told("gcd(-7,0)", 7.0);
        Due.told("gcd(0,-7)", 7.0);
        Due.told("gcd(-7,-0.0)", 7.0);
        Due.told("gcd(1,7)", 1.0);
        Due.told("gcd(-12,-18)", 6.0);
        Due.told("gcd(1p1023,3p-1074)", MIN);
        Due.told("gcd(1p1023,1p-1074)", MIN);
    }

    private static boolean compared(String sign, int order) {
        switch (sign) {
            case "<":
                return order < 0;
            case "<=":
                return order <= 0;
            case ">":
                return order > 0;
            case ">=":
                return order >= 0;
            case "==":
                return order == 0;
            default:
                return order != 0;
        }
    }

    private static void comparisons() {
        Due.sentence("< <= > >=: both JOINED, gives TRUTH. == !=: likewise, or two TRUTHS");
        String[][] rows = {{"-2147483647-1", "-2147483647", "-1", "0", "1", "2147483646", "2147483647"},
            {"-9223372036854775807l-1", "-9223372036854775807l", "-1l", "0l", "1l", "9223372036854775806l", "9223372036854775807l"},
            {"-1p127f", "-1.5f", "-1f", "-1p-149f", "0f", "1p-149f", "1f", "1.5f", "1p127f"},
            {"-1p1023", "-1.5", "-1.0", "-1p-1074", "0.0", "1p-1074", "1.0", "1.5", "1p1023"},
            {"(byte)-128", "(byte)-1", "(char)0", "(short)1", "(byte)127", "(short)32767", "(char)65535", "65536", "4294967296l", "1p63f", "1p64"}};
        for (String[] row : rows) {
            for (int a = 0; a < row.length; a++) {
                for (int b = 0; b < row.length; b++) {
                    for (String sign : new String[] {"<", "<=", ">", ">=", "==", "!="}) {
                        Due.told(row[a] + sign + row[b], 0, compared(sign, Integer.compare(a, b)) ? 1 : 0);
                    }
                    Due.told("least(" + row[a] + "," + row[b] + ")==" + row[Math.min(a, b)], 0, 1);
                    Due.told("most(" + row[a] + "," + row[b] + ")==" + row[Math.max(a, b)], 0, 1);
                }
            }
        }
        Due.told("true==true", 0, 1);
        Due.told("true==false", 0, 0);
        Due.told("false==false", 0, 1);
        Due.told("false!=true", 0, 1);
        Due.told("false!=false", 0, 0);
    }

    private static void olds() {
        Due.sentence("old(NAME): what the thing was ahead of the latest tick (at first, and behind set(), what it is)");
        TurningHall hall = Due.planned("part a:int=5 then a+1;show s:int=old(a)*100+a;");
        Due.due("at first", hall.value(1, 0), 505);
        Due.told(hall, "old(a)", 4, 5);
        hall.tick(1);
        Due.told(hall, "old(a)*100+a", 4, 506);
        Due.due("as the tick went", hall.value(1, 0), 506);
        Due.due("set", hall.set(0, 70), true);
        Due.told(hall, "old(a)*100+a", 4, 7070);
        Due.told(hall, "old(s)", 4, 505);
        Due.due("no show", hall.set(1, 1), false);
        Due.told(hall, "old(s)", 4, 505);
        hall.tick(1);
        Due.told(hall, "old(a)*100+a", 4, 7071);
        Due.told(hall, "old(s)", 4, 506);
        hall.tick(0);
        Due.told(hall, "old(a)*100+a", 4, 7071);
        TurningHall later = Due.planned("part a:int=1 then old(b);part b:int=2 then a*10;");
        later.tick(1);
        Due.due("what b was", later.value(0, 0), 2);
        Due.due("what a is by then", later.value(1, 0), 20);
        Due.sentence("A cam's index is from 0 on");
        TurningHall cam = Due.planned("cam c=5,6;");
        Due.told(cam, "c[0]", 7, Due.bits(5));
        Due.told(cam, "c[1]", 7, Due.bits(6));
    }

    private static void newPlans() {
        Due.sentence("A new plan: ticks are 0, JAMS 0, nothing struck");
        TurningHall hall = Due.planned("part a:int=1/0 then 1/0;bell b when true;bell c when 1/0==0;");
        hall.tick(3);
        Due.due("jams", hall.thing(0, 3), 4);
        Due.due("jams of c", hall.thing(101, 3), 3);
        Due.due("struck", hall.count(5), 3);
        Due.plan(hall, "part a:int=1 then 1;bell b when true;bell c when true;");
        Due.due("ticks", hall.tick(0), 0);
        Due.due("jams", hall.thing(0, 3), 0);
        Due.due("kind", hall.thing(0, 4), 0);
        Due.due("place", hall.thing(0, 5), -1);
        Due.due("jams of c", hall.thing(101, 3), 0);
        Due.due("place of c", hall.thing(101, 5), -1);
        Due.due("COUNT", hall.thing(100, 6), 0);
        Due.due("struck", hall.count(5), 0);
        Due.due("strike", hall.strike(0, 0), -1);
        Due.due("past", hall.value(0, 1), 0);
        Due.sentence("each thing (shows, too) becomes what stands behind its = (0, false, if that jams; its JAMS are 1 then ..)");
        String text = "part a:int=1/0 then 7;show t:truth=1%0==0;show d:double=-1/0.0;show f:float=(float)1p128;cam c=1;"
            + "show k:double=c[1];show l:long=a+5;part n:int=4 then 4;";
        TurningHall jammed = Due.planned(text);
        int[] kinds = {1, 1, 2, 3, 4, 0, 0};
        int[] places = {text.indexOf("/0 then"), text.indexOf('%'), text.indexOf("/0.0"), text.indexOf("(float)"), text.indexOf("[1]"),
            -1, -1};
        for (int i = 0; i < 7; i++) {
            Due.due("value of " + i, jammed.value(i, 0), i == 5 ? 5 : i == 6 ? 4 : 0);
            Due.due("JAMS of " + i, jammed.thing(i, 3), kinds[i] == 0 ? 0 : 1);
            Due.due("kind of " + i, jammed.thing(i, 4), kinds[i]);
            Due.due("place of " + i, jammed.thing(i, 5), places[i]);
        }
        // What stood there in another plan is nothing to it.
        TurningHall again = Due.planned("part a:int=5 then 6;show t:truth=true;part d:double=7 then 8;");
        again.tick(1);
        Due.plan(again, "part a:int=1/0 then 7;show t:truth=1%0==0;show d:double=-1/0.0;");
        for (int i = 0; i < 3; i++) {
            Due.due("value behind another plan's of " + i, again.value(i, 0), 0);
        }
        Due.told(again, "old(a)", 4, 0);
        Due.told(again, "old(t)", 0, 0);
        Due.told(jammed, "old(l)", 5, 5);
        Due.told(jammed, "old(a)", 4, 0);
        Due.plan(jammed, "show x:int=a;");
        Due.due("a plan that is none changes no JAMS", jammed.thing(0, 3), 1);
    }

    private static void ticks() {
        Due.sentence("Then as they stand: a part becomes what stands behind then .. All by values as they are by then");
        TurningHall hall = Due.planned("bell early when n==1;part n:int=0 then n+1;bell late when n==1;show m:int=n*10;bell last when m==10;");
        hall.tick(1);
        Due.due("ahead of n", hall.thing(100, 6), 0);
        Due.due("behind n", hall.thing(101, 6), 1);
        Due.due("behind m", hall.thing(102, 6), 1);
        Due.due("m", hall.value(1, 0), 10);
        Due.due("the latest", hall.strike(0, 1), 2);
        Due.due("the one before", hall.strike(1, 1), 1);
        hall.tick(1);
        Due.due("ahead of n by the next tick", hall.thing(100, 6), 1);
        TurningHall clock = Due.planned("part t:long=ticks then ticks;show s:long=ticks;bell b when ticks==1;");
        Due.due("at first", clock.value(0, 0), 0);
        clock.tick(1);
        Due.due("ticks are 1 more first", clock.value(0, 0), 1);
        Due.due("of a show, too", clock.value(1, 0), 1);
        Due.due("of a bell, too", clock.strike(0, 0), 1);
        Due.sentence("What jams leaves its thing as it was, and no bell strikes; its JAMS are 1 more, the latest kind and the place ..");
        String text = "part n:int=2 then n-1;part q:double=8 then n>0?1.5%n:8/(n*0);show s:double=4.0/n;bell b when 6/n==6;"
            + "cam c=1;part k:double=3 then c[n];part f:float=1 then (float)(n*1p127);";
        TurningHall jams = Due.planned(text);
        jams.tick(1);
        Due.due("n is 1", jams.value(1, 0), Due.bits(0.5));
        Due.due("s", jams.value(2, 0), Due.bits(4));
        Due.due("k jams", jams.value(3, 0), Due.bits(3));
        Due.due("f", jams.value(4, 0), Float.floatToRawIntBits(0x1p127f));
        Due.due("struck", jams.thing(100, 6), 1);
        jams.tick(1);
        Due.due("n is 0: q as it was", jams.value(1, 0), Due.bits(0.5));
        Due.due("s as it was", jams.value(2, 0), Due.bits(4));
        Due.due("k", jams.value(3, 0), Due.bits(1));
        Due.due("no strike", jams.thing(100, 6), 1);
        Due.due("kind of q", jams.thing(1, 4), 1);
        Due.due("place of q", jams.thing(1, 5), text.indexOf("/(n"));
        Due.due("kind of s", jams.thing(2, 4), 2);
        Due.due("place of s", jams.thing(2, 5), text.indexOf("/n;"));
        Due.due("bell's kind", jams.thing(100, 4), 1);
        Due.due("bell's place", jams.thing(100, 5), text.indexOf("/n=="));
        Due.due("place of k", jams.thing(3, 5), text.indexOf("[n]"));
        Due.due("its OLD is what it was", jams.value(1, 1), Due.bits(0.5));
        jams.tick(2);
        Due.due("n is -2: f jams", jams.thing(4, 4), 3);
        Due.due("place of the cast", jams.thing(4, 5), text.indexOf("(float)"));
        Due.due("f as it was", jams.value(4, 0), Float.floatToRawIntBits(-0x1p127f));
        Due.due("JAMS of q", jams.thing(1, 3), 3);
        Due.due("JAMS of s", jams.thing(2, 3), 1);
        Due.due("JAMS of k", jams.thing(3, 3), 3);
        // The latest kind and place take the place of the former.
        TurningHall two = Due.planned("part x:double=1 then ticks==1?1/(ticks-1):1.5/(ticks-2);");
        two.tick(1);
        Due.due("first kind", two.thing(0, 4), 1);
        int first = two.thing(0, 5);
        two.tick(1);
        Due.due("second kind", two.thing(0, 4), 2);
        Due.due("second place", two.thing(0, 5) > first, true);
        two.tick(1);
        Due.due("stays with a tick without one", two.thing(0, 4), 2);
        Due.due("two", two.thing(0, 3), 2);
    }

    private static Object held(Object owner, String name) {
        try {
            Field field = owner.getClass().getDeclaredField(name);
            field.setAccessible(true);
            return field.get(owner);
        } catch (ReflectiveOperationException e) {
            throw new IllegalStateException(e);
        }
    }

    /** No 512 calls tick so often, so the numbers are put near their end from outside. */
    private static void greatestCounts() {
        Due.sentence("its JAMS are 1 more (at most 2147483647)");
        TurningHall hall = Due.planned("part x:int=1 then 1/0;bell a when 1/0==0;bell b when true;");
        int[] jams = (int[]) held(held(hall, "state"), "jams");
        int[] counts = (int[]) held(held(hall, "state"), "counts");
        int bellsFrom = jams.length - counts.length;
        jams[0] = 2147483645;
        jams[bellsFrom] = 2147483645;
        counts[1] = 2147483645;
        for (int n : new int[] {2147483646, 2147483647, 2147483647, 2147483647}) {
            hall.tick(1);
            Due.due("JAMS of a thing", hall.thing(0, 3), n);
            Due.due("JAMS of a bell", hall.thing(100, 3), n);
            Due.due("COUNT of a bell (A bell's COUNT is at most 2147483647)", hall.thing(101, 6), n);
        }
        Due.due("it strikes all the same", hall.strike(0, 0), 4);
    }

    private static void strikes() {
        Due.sentence("STRIKES: the latest 64 are kept: the tick, the bell");
        TurningHall hall = Due.planned("bell a when true;");
        for (int n = 1; n <= 66; n++) {
            hall.tick(1);
            Due.due("kept behind tick " + n, hall.count(5), Math.min(n, 64));
            Due.due("the latest", hall.strike(0, 0), n);
            Due.due("the first", hall.strike(Math.min(n, 64) - 1, 0), Math.max(n - 63, 1));
            Due.due("none", hall.strike(Math.min(n, 64), 0), -1);
        }
        TurningHall three = Due.planned("bell a when true;bell b when ticks%2==0;bell c when true;");
        three.tick(500);
        Due.due("kept", three.count(5), 64);
        Due.due("COUNT goes on", three.thing(102, 6), 500);
        Due.due("every other", three.thing(101, 6), 250);
        // 5 strikes in two ticks, so the 64th stands in tick 475.
        Due.due("the latest", three.strike(0, 1), 2);
        Due.due("before it", three.strike(1, 1), 1);
        Due.due("before that", three.strike(2, 1), 0);
        Due.due("the tick before", three.strike(3, 0), 499);
        Due.due("its bell", three.strike(3, 1), 2);
        Due.due("the 64th", three.strike(63, 0), 475);
        Due.due("its bell", three.strike(63, 1), 2);
        Due.due("the 65th", three.strike(64, 1), -1);
    }

    public static void main(String[] args) {
        leftAndRight();
        toWholes();
        leastAndMost();
        comparisons();
        olds();
        newPlans();
        ticks();
        greatestCounts();
        strikes();
        Due.finish("WorkingBoundaryTest");
    }
}
