/** Promises 1 to 11, with answers taken from the document by hand. */
public final class TextsPromisesTest {
    private static final double INFINITE = Double.POSITIVE_INFINITY;

    private static void promise1NewObject() {
        TurningHall hall = new TurningHall();
        Due.due("NONE", TurningHall.NONE, -1);
        for (int what = 0; what <= 7; what++) {
            Due.due("count of a new one " + what, hall.count(what), 0);
        }
        Due.due("fault", hall.fault(), 0);
        Due.due("told", hall.told(), 0);
        Due.due("value", hall.value(0, 0), 0);
        Due.due("thing", hall.thing(0, 0), -1);
        Due.due("bell", hall.thing(100, 6), -1);
        Due.due("letter", hall.letter(200, 0), -1);
        Due.due("strike", hall.strike(0, 0), -1);
        Due.due("octet", hall.octet(0), -1);
        Due.due("wheel", hall.wheel(0), 0);
        for (int place = 0; place < 4; place++) {
            Due.due("back " + place, hall.back(place), false);
        }
        Due.told(hall, "step", 7, Due.bits(1.0));
        Due.told(hall, "ticks", 5, 0);
        Due.due("set", hall.set(0, 1), false);
    }

    private static void promise2Feed() {
        TurningHall hall = new TurningHall();
        // "1+2 " and blanks; then bytes of which the highest comes first.
        Due.due("feed", hall.feed(0x312B3220, 0x20202020, 0x20202020, 0x20202020, 0x20202020), 20);
        Due.due("ask", hall.ask(), 4);
        Due.due("told", hall.told(), 3);
        Due.due("feed", hall.feed(0x61626364, 0x65666768, 0x696A6B6C, 0x6D6E6F70, 0x71727374), 20);
        Due.due("a run of letters, its 11th", hall.ask(), -1 - 10);
        for (int n = 20; n <= 3000; n += 20) {
            Due.due("feed", hall.feed(0x20202020, 0x20202020, 0x20202020, 0x20202020, 0x20202020), n);
        }
        Due.due("too many", hall.feed(0, 0, 0, 0, 0), -1);
        Due.due("still", hall.count(4), 3000);
        Due.due("end", hall.end(2981), 2981);
        Due.due("too many", hall.feed(0, 0, 0, 0, 0), -1);
        Due.due("still", hall.count(4), 2981);
        Due.due("end", hall.end(2980), 2980);
        Due.due("just enough", hall.feed(0, 0, 0, 0, 0x00000000), 3000);
        Due.due("the first 0 is no token", hall.plan(), -1 - 2980);
        Due.due("negative numbers", hall.feed(-1, -1, -1, -1, -1), 20);
        Due.due("a byte 255", hall.ask(), -1);
        Due.due("kind", hall.fault(), 1);
    }

    private static void promise3End() {
        TurningHall hall = new TurningHall();
        Due.due("end of nothing", hall.end(0), 0);
        Due.due("more than there is", hall.end(1), -1);
        hall.feed(0x31323334, 0x35363738, 0x31323334, 0x35363738, 0x31323334);
        Due.due("below 0", hall.end(-1), -1);
        Due.due("least", hall.end(Integer.MIN_VALUE), -1);
        Due.due("too many", hall.end(21), -1);
        Due.due("greatest", hall.end(Integer.MAX_VALUE), -1);
        Due.due("all", hall.end(20), 20);
        Due.due("three", hall.end(3), 3);
        Due.due("four are gone", hall.end(4), -1);
        Due.due("count", hall.count(4), 3);
        hall.feed(0x20202020, 0x20202020, 0x20202020, 0x20202020, 0x20202020);
        Due.due("ask", hall.ask(), 4);
        Due.due("told", hall.told(), 123);
    }

    private static void promise4Plan() {
        TurningHall hall = new TurningHall();
        Due.due("empty", hall.plan(), 0);
        Due.due("blanks", Due.plan(hall, " \n\t "), 0);
        Due.due("two things", Due.plan(hall, "part a:int=1 then a+1;show b:long=a*2l;bell c when a>3;cam d=1,2;"), 2);
        Due.due("tape", hall.count(4), 0);
        hall.tick(2);
        hall.keep(0);
        Due.due("fault", Due.plan(hall, "part a:int=1;"), -1 - 12);
        Due.due("tape", hall.count(4), 0);
        Due.due("all stays: things", hall.count(0), 2);
        Due.due("all stays: nodes", hall.count(3), 10);
        Due.due("all stays: value", hall.value(0, 0), 3);
        Due.due("all stays: ticks", hall.tick(0), 2);
        Due.due("all stays: what is kept", hall.back(0), true);
        Due.due("a new one", Due.plan(hall, "show z:int=7;"), 1);
        Due.due("its value", hall.value(0, 0), 7);
        Due.due("its ticks", hall.tick(0), 0);
        Due.due("no bells", hall.count(1), 0);
        Due.due("what was kept is another's", hall.back(0), false);
        TurningHall jammed = Due.planned("part a:int=3 then a; show b:int=6/(a-3); show c:int=b+a; part d:int=c then d;"
            + "part e:truth = 1/(a-3)==1 then e;");
        Due.due("jammed at first", jammed.value(1, 0), 0);
        Due.due("what follows it", jammed.value(2, 0), 3);
        Due.due("jams", jammed.thing(1, 3), 1);
        Due.due("kind", jammed.thing(1, 4), 1);
        Due.due("place", jammed.thing(1, 5), 33);
        Due.due("false", jammed.value(4, 0), 0);
        Due.due("nothing jammed", jammed.thing(2, 3), 0);
    }

    private static void promise5Fault() {
        TurningHall hall = new TurningHall();
        Due.due("ahead of any", hall.fault(), 0);
        Due.ask(hall, "1+");
        Due.due("reading", hall.fault(), 1);
        Due.ask(hall, "1/0");
        Due.due("a jam is none", hall.fault(), 0);
        Due.plan(hall, "cam a=1,1,1,1,1,1,1,1,1,1,1,1,1,1,1,1,1,1,1,1,1,1,1,1,1;");
        Due.due("too much", hall.fault(), 2);
        Due.await(hall, "nobody", 1);
        Due.due("names", hall.fault(), 3);
        Due.await(hall, "true", 501);
        Due.due("stays", hall.fault(), 3);
        Due.ask(hall, "1+true");
        Due.due("sorts", hall.fault(), 4);
        Due.await(hall, "true", 0);
        Due.due("none", hall.fault(), 0);
        Due.await(hall, "1", 3);
        Due.due("no TRUTH", hall.fault(), 4);
        hall.plan();
        Due.due("an empty plan has none", hall.fault(), 0);
        hall.ask();
        Due.due("an empty E has one", hall.fault(), 1);
    }

    private static void promise6Count() {
        TurningHall hall = Due.planned("part a:int=1 then -a;cam c=1,-2.5;bell b when !true||c[1]<old(a);"
            + "bell bb when true; show s:double=(double)least(a,2);");
        Due.due("things", hall.count(0), 2);
        Due.due("bells", hall.count(1), 2);
        Due.due("cams", hall.count(2), 1);
        // 1; - a; ! true || c 1 < old; true; ( least a 2
        Due.due("nodes", hall.count(3), 1 + 2 + 7 + 1 + 4);
        Due.type(hall, "abc");
        Due.due("tape", hall.count(4), 3);
        hall.tick(3);
        Due.due("strikes", hall.count(5), 6);
        hall.tick(100);
        Due.due("strikes at most", hall.count(5), 64);
        hall.dial(Due.bits(12.5), 2);
        Due.due("text", hall.count(6), 5);
        hall.train(Due.bits(1), 1, 4, 5);
        Due.due("wheels", hall.count(7), 2);
        hall.train(Due.bits(1), 2, 4, 5);
        Due.due("wheels", hall.count(7), 4);
        Due.due("another", hall.count(8), -1);
        Due.due("another", hall.count(-1), -1);
        Due.due("another", hall.count(Integer.MIN_VALUE), -1);
    }

    private static void promise7Thing() {
        TurningHall hall = Due.planned("part t:truth=true then t;part ab:byte=(byte)1 then ab;show abc:short=(short)1;"
            + "part c:char=(char)1 then c;show i:int=1;part l:long=1 then 1/(ticks-2);show f:float=1;"
            + "show d:double=1.0/(2-ticks);bell ring when ticks>1;bell jam when 1%(ticks-1)==0;cam cam1=1;");
        for (int sort = 0; sort < 8; sort++) {
            Due.due("sort " + sort, hall.thing(sort, 0), sort);
        }
        Due.due("part", hall.thing(0, 1), 1);
        Due.due("show", hall.thing(2, 1), 0);
        Due.due("name", hall.thing(2, 2), 3);
        Due.due("jams", hall.thing(5, 3), 0);
        Due.due("no kind", hall.thing(5, 4), 0);
        Due.due("no place", hall.thing(5, 5), -1);
        hall.tick(2);
        String at = "part t:truth=true then t;part ab:byte=(byte)1 then ab;show abc:short=(short)1;part c:char=(char)1 then c;"
            + "show i:int=1;part l:long=1 then 1";
        Due.due("jams", hall.thing(5, 3), 1);
        Due.due("kind", hall.thing(5, 4), 1);
        Due.due("place", hall.thing(5, 5), at.length());
        Due.due("kind of reals", hall.thing(7, 4), 2);
        Due.due("as it was", hall.value(5, 0), -1);
        hall.tick(1);
        Due.due("the latest is kept", hall.thing(5, 4), 1);
        Due.due("jams", hall.thing(5, 3), 1);
        Due.due("bell's name", hall.thing(100, 2), 4);
        Due.due("bell's count", hall.thing(100, 6), 2);
        Due.due("bell's jams", hall.thing(101, 3), 1);
        Due.due("bell's kind", hall.thing(101, 4), 1);
        Due.due("bell's place", hall.thing(101, 5) > 0, true);
        Due.due("bell's count", hall.thing(101, 6), 1);
        Due.due("no place", hall.thing(100, 5), -1);
        int[][] none = {{-1, 0}, {8, 0}, {99, 2}, {102, 2}, {200, 2}, {0, 6}, {0, -1}, {0, 7}, {100, 0}, {100, 1},
            {100, 7}, {100, -1}, {Integer.MIN_VALUE, 2}, {Integer.MAX_VALUE, 2}, {0, Integer.MAX_VALUE}};
        for (int[] call : none) {
            Due.due("thing " + call[0] + " " + call[1], hall.thing(call[0], call[1]), -1);
        }
    }

    private static void promise8Letter() {
        TurningHall hall = Due.planned("part aZ9:int=1 then 1;bell ding when true;cam abcdefghij=1;show x:int=2;");
        Due.due("thing", hall.letter(0, 0), 'a');
        Due.due("thing", hall.letter(0, 2), '9');
        Due.due("behind", hall.letter(0, 3), -1);
        Due.due("second", hall.letter(1, 0), 'x');
        Due.due("bell", hall.letter(100, 3), 'g');
        Due.due("cam", hall.letter(200, 9), 'j');
        int[][] none = {{0, -1}, {2, 0}, {-1, 0}, {99, 0}, {101, 0}, {201, 0}, {200, 10}, {Integer.MAX_VALUE, 0},
            {Integer.MIN_VALUE, 0}, {0, Integer.MAX_VALUE}, {0, Integer.MIN_VALUE}};
        for (int[] call : none) {
            Due.due("letter " + call[0] + " " + call[1], hall.letter(call[0], call[1]), -1);
        }
    }

    private static void promise9Value() {
        TurningHall hall = Due.planned("part a:long=100 then a+1;show b:float=-a;part c:double=-0.0 then c;");
        Due.due("now", hall.value(0, 0), 100);
        Due.due("a FLOAT's as an int", hall.value(1, 0), Float.floatToRawIntBits(-100f));
        Due.due("-0", hall.value(2, 0), Long.MIN_VALUE);
        Due.due("no tick", hall.value(0, 1), 0);
        hall.tick(1);
        Due.due("ahead of the tick", hall.value(0, 1), 100);
        Due.due("none before", hall.value(0, 2), 0);
        hall.set(0, 7);
        Due.due("set() changes what is", hall.value(0, 0), 7);
        Due.due("and no past", hall.value(0, 1), 100);
        hall.tick(1);
        Due.due("what was set", hall.value(0, 1), 7);
        Due.due("what was before", hall.value(0, 2), 100);
        hall.tick(40);
        for (int ago = 0; ago <= 31; ago++) {
            Due.due("ago " + ago, hall.value(0, ago), 48 - ago);
        }
        int[][] none = {{0, 32}, {0, -1}, {3, 0}, {-1, 0}, {100, 0}, {0, Integer.MAX_VALUE}, {0, Integer.MIN_VALUE},
            {Integer.MAX_VALUE, 1}, {Integer.MIN_VALUE, 1}};
        for (int[] call : none) {
            Due.due("value " + call[0] + " " + call[1], hall.value(call[0], call[1]), 0);
        }
        Due.plan(hall, "part a:int=5 then a;");
        Due.due("a new plan has no pasts", hall.value(0, 1), 0);
    }

    private static void promise10Set() {
        TurningHall hall = Due.planned("part t:truth=false then t;part b:byte=(byte)1 then b;part s:short=(short)1 then s;"
            + "part c:char=(char)1 then c;part i:int=1 then i;part l:long=1 then l;part f:float=1 then f;"
            + "part d:double=1 then d;show x:int=i;");
        long odd = 0x123456789ABCDEFFL;
        long[] due = {1, -1, (short) 0xDEFF, 0xDEFF, 0x9ABCDEFF, odd, 0x9ABCDEFF, odd};
        for (int i = 0; i < 8; i++) {
            Due.due("set " + i, hall.set(i, odd), true);
            Due.due("is " + i, hall.value(i, 0), due[i]);
        }
        Due.due("truth", hall.set(0, 2), true);
        Due.due("false", hall.value(0, 0), 0);
        Due.due("a show", hall.set(8, 1), false);
        Due.due("none", hall.set(9, 1), false);
        Due.due("none", hall.set(-1, 1), false);
        Due.due("none", hall.set(Integer.MAX_VALUE, 1), false);
        Due.due("bell", hall.set(100, 1), false);
        for (double d : new double[] {INFINITE, -INFINITE, Double.NaN}) {
            Due.due("no finite double", hall.set(7, Due.bits(d)), false);
            Due.due("no finite float", hall.set(6, Float.floatToRawIntBits((float) d)), false);
        }
        Due.due("still", hall.value(7, 0), odd);
        Due.due("its lowest 32 are finite", hall.set(6, 0x7FF0000000000001L), true);
        Due.due("they are", hall.value(6, 0), 1);
        Due.due("the greatest", hall.set(7, Due.bits(-Double.MAX_VALUE)), true);
        hall.tick(1);
        hall.set(4, 44);
        Due.told(hall, "old(i)", 4, 44);
        hall.tick(1);
        Due.due("a show follows", hall.value(8, 0), 44);
    }

    private static void promise11Step() {
        TurningHall hall = new TurningHall();
        Due.due("step", hall.step(Due.bits(0.25)), true);
        Due.told(hall, "step*2", 7, Due.bits(0.5));
        Due.due("infinite", hall.step(Due.bits(INFINITE)), false);
        Due.due("NaN", hall.step(Due.bits(Double.NaN)), false);
        Due.due("all bits", hall.step(-1), false);
        Due.told(hall, "step", 7, Due.bits(0.25));
        Due.plan(hall, "part x:double=step then x+step;");
        Due.due("stays with a new plan", hall.value(0, 0), Due.bits(0.25));
        Due.due("-0", hall.step(Long.MIN_VALUE), true);
        Due.told(hall, "step", 7, Long.MIN_VALUE);
        Due.due("greatest", hall.step(Due.bits(Double.MAX_VALUE)), true);
        hall.tick(1);
        Due.due("least real", hall.step(1), true);
        Due.told(hall, "step", 7, 1);
    }

    public static void main(String[] args) {
        promise1NewObject();
        promise2Feed();
        promise3End();
        promise4Plan();
        promise5Fault();
        promise6Count();
        promise7Thing();
        promise8Letter();
        promise9Value();
        promise10Set();
        promise11Step();
        Due.finish("TextsPromisesTest");
    }
}
