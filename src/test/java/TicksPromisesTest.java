/** Promises 12 to 16, 25 and 26, with answers taken from the document by hand. */
public final class TicksPromisesTest {
    private static void promise12Tick() {
        TurningHall hall = Due.planned("part a:int=1 then b;part b:int=2 then a+10;show s:int=old(a)*1000+a*10;"
            + "bell r when old(b)==12;");
        Due.due("none", hall.tick(0), 0);
        Due.due("one", hall.tick(1), 1);
        Due.due("a is b", hall.value(0, 0), 2);
        Due.due("b by what a is by then", hall.value(1, 0), 12);
        Due.due("old and new", hall.value(2, 0), 1020);
        Due.due("two", hall.tick(2), 3);
        Due.due("rang once", hall.thing(100, 6), 1);
        Due.due("at 2", hall.strike(0, 0), 2);
        Due.due("500", hall.tick(500), 503);
        Due.due("501", hall.tick(501), -1);
        Due.due("below", hall.tick(-1), -1);
        Due.due("least", hall.tick(Integer.MIN_VALUE), -1);
        Due.due("greatest", hall.tick(Integer.MAX_VALUE), -1);
        Due.due("as before", hall.tick(0), 503);
        TurningHall jams = Due.planned("part n:int=3 then n-1;part q:int=60 then 60/n;cam c=1,2,3;"
            + "show k:double=c[n];bell z when 5%n==0;");
        jams.tick(5);
        Due.due("n", jams.value(0, 0), -2);
        Due.due("went on behind the jam", jams.value(1, 0), -30);
        Due.due("one jam", jams.thing(1, 3), 1);
        Due.due("index jams: 3 at first, -1, -2", jams.thing(2, 3), 3);
        Due.due("kind", jams.thing(2, 4), 4);
        Due.due("as it was", jams.value(2, 0), Due.bits(1.0));
        Due.due("place of its [", jams.thing(2, 5), "part n:int=3 then n-1;part q:int=60 then 60/n;cam c=1,2,3;show k:double=c".length());
        Due.due("bell: jam", jams.thing(100, 3), 1);
        Due.due("bell: 1 and -1", jams.thing(100, 6), 2);
    }

    private static void promise13Strike() {
        TurningHall hall = Due.planned("bell a when ticks%2==0;bell b when true;");
        Due.due("none yet", hall.strike(0, 0), -1);
        hall.tick(2);
        Due.due("latest", hall.strike(0, 0), 2);
        Due.due("latest's bell", hall.strike(0, 1), 1);
        Due.due("before", hall.strike(1, 0), 2);
        Due.due("before's bell", hall.strike(1, 1), 0);
        Due.due("first", hall.strike(2, 0), 1);
        Due.due("none such", hall.strike(3, 0), -1);
        Due.due("another what", hall.strike(0, 2), -1);
        Due.due("another what", hall.strike(0, -1), -1);
        Due.due("below", hall.strike(-1, 0), -1);
        Due.due("least", hall.strike(Integer.MIN_VALUE, 0), -1);
        hall.tick(100);
        Due.due("the 64th", hall.strike(63, 0) > 0, true);
        Due.due("the 65th", hall.strike(64, 0), -1);
        Due.due("far", hall.strike(Integer.MAX_VALUE, 1), -1);
        Due.due("latest", hall.strike(0, 0), 102);
        Due.due("count goes on", hall.thing(101, 6), 102);
        Due.plan(hall, "bell a when true;");
        Due.due("a new plan", hall.strike(0, 0), -1);
    }

    private static void promise14Ask() {
        TurningHall hall = Due.planned("part a:int=1 then a+1;cam c=10,20;part t:truth=true then !t;");
        hall.tick(3);
        Due.told(hall, "a", 4, 4);
        Due.told(hall, "old(a)", 4, 3);
        Due.told(hall, "t", 0, 0);
        Due.told(hall, "c[a-3]", 7, Due.bits(20));
        Due.told(hall, "ticks", 5, 3);
        Due.told(hall, "(byte)300", 1, 44);
        Due.told(hall, "(short)a", 2, 4);
        Due.told(hall, "(char)-1", 3, 65535);
        Due.told(hall, "1f", 6, Float.floatToRawIntBits(1f));
        Due.due("jam 1", Due.ask(hall, "1/0"), 9);
        Due.due("jam 2", Due.ask(hall, "1.0%-0.0"), 10);
        Due.due("jam 3", Due.ask(hall, "1p1023*2"), 11);
        Due.due("jam 4", Due.ask(hall, "c[2]"), 12);
        Due.due("no fault", hall.fault(), 0);
        Due.due("tape", hall.count(4), 0);
        Due.due("fault", Due.ask(hall, "1 + * 2"), -1 - 4);
        Due.due("tape", hall.count(4), 0);
        Due.due("empty", hall.ask(), -1);
        Due.due("a plan is no E", Due.ask(hall, "show x:int=1;"), -1);
        Due.due("no thing", Due.ask(hall, "a+zz"), -1 - 2);
        Due.due("no thing but a cam", Due.ask(hall, "c"), -1);
        Due.due("no cam but a thing", Due.ask(hall, "a[0]"), -1);
        Due.due("nothing ticked", hall.tick(0), 3);
        Due.due("the plan's nodes", hall.count(3), 7);
    }

    private static void promise15Told() {
        TurningHall hall = new TurningHall();
        Due.due("ahead of any", hall.told(), 0);
        Due.ask(hall, "5+6");
        Due.due("told", hall.told(), 11);
        Due.ask(hall, "1/0");
        Due.due("a jam leaves it", hall.told(), 11);
        Due.ask(hall, "1/");
        Due.due("a fault leaves it", hall.told(), 11);
        Due.await(hall, "true", 1);
        Due.due("await leaves it", hall.told(), 11);
        Due.plan(hall, "show a:int=3;");
        Due.due("a plan leaves it", hall.told(), 11);
        Due.ask(hall, "-1.5f");
        Due.due("a FLOAT", hall.told(), Float.floatToRawIntBits(-1.5f));
        Due.ask(hall, "false");
        Due.due("a TRUTH", hall.told(), 0);
    }

    private static void promise16Await() {
        TurningHall hall = Due.planned("part a:int=0 then a+1;bell r when a==2;");
        Due.due("already", Due.await(hall, "a==0", 5), 0);
        Due.due("three", Due.await(hall, "a>=3", 5), 3);
        Due.due("ticks", hall.tick(0), 3);
        Due.due("rang", hall.thing(100, 6), 1);
        Due.due("not then", Due.await(hall, "a>100", 4), -2);
        Due.due("ticks", hall.tick(0), 7);
        Due.due("just then", Due.await(hall, "a==9", 2), 2);
        Due.due("asked once", Due.await(hall, "a==10", 0), -2);
        Due.due("asked once", Due.await(hall, "a==9", 0), 0);
        Due.due("jams later", Due.await(hall, "1/(11-a)==7", 100), -3);
        Due.due("what was ticked stays", hall.tick(0), 11);
        Due.due("no fault", hall.fault(), 0);
        Due.due("no TRUTH", Due.await(hall, "a", 4), -1);
        Due.due("kind", hall.fault(), 4);
        Due.due("nothing ticked", hall.tick(0), 11);
        Due.due("fault", Due.await(hall, "a==", 4), -1);
        Due.due("kind", hall.fault(), 1);
        for (int n : new int[] {-1, 501, Integer.MIN_VALUE, Integer.MAX_VALUE}) {
            Due.due("another n", Due.await(hall, "true", n), -1);
            Due.due("tape", hall.count(4), 0);
            Due.due("stays", hall.fault(), 1);
        }
        Due.due("500", Due.await(hall, "old(a)==510", 500), 500);
        Due.due("empty", hall.await(3), -1);
        Due.due("kind", hall.fault(), 1);
    }

    private static void promise25Keep() {
        TurningHall hall = new TurningHall();
        Due.due("the empty plan", hall.keep(0), true);
        Due.due("another place", hall.keep(4), false);
        Due.due("another place", hall.keep(-1), false);
        Due.due("least", hall.keep(Integer.MIN_VALUE), false);
        hall.tick(3);
        Due.due("back", hall.back(0), true);
        Due.due("ticks", hall.tick(0), 0);
        Due.plan(hall, "part a:int=1 then a+1;");
        for (int place = 0; place < 4; place++) {
            Due.due("keep", hall.keep(place), true);
            hall.tick(1);
        }
        Due.due("instead", hall.keep(1), true);
        for (int place = 0; place < 4; place++) {
            Due.due("back", hall.back(place), true);
            Due.due("value at " + place, hall.value(0, 0), place == 1 ? 5 : place + 1);
        }
    }

    private static void promise26Back() {
        TurningHall hall = Due.planned("part a:int=4 then a-1;show q:int=12/a;bell r when a<4;");
        Due.due("nothing", hall.back(0), false);
        Due.due("another place", hall.back(4), false);
        Due.due("another place", hall.back(-1), false);
        Due.due("greatest", hall.back(Integer.MAX_VALUE), false);
        hall.tick(2);
        hall.step(Due.bits(0.5));
        hall.keep(2);
        hall.tick(10);
        hall.step(Due.bits(8));
        hall.set(0, 77);
        Due.due("jams", hall.thing(1, 3), 1);
        Due.due("back", hall.back(2), true);
        Due.due("ticks", hall.tick(0), 2);
        Due.due("value", hall.value(0, 0), 2);
        Due.due("past", hall.value(0, 1), 3);
        Due.due("past", hall.value(0, 2), 4);
        Due.due("no past", hall.value(0, 3), 0);
        Due.told(hall, "old(a)", 4, 3);
        Due.told(hall, "step", 7, Due.bits(0.5));
        Due.due("jams", hall.thing(1, 3), 0);
        Due.due("kind", hall.thing(1, 4), 0);
        Due.due("strikes", hall.count(5), 2);
        Due.due("count", hall.thing(100, 6), 2);
        hall.tick(1);
        Due.due("and stays kept", hall.back(2), true);
        Due.due("ticks", hall.tick(0), 2);
        Due.plan(hall, "what?");
        Due.due("a plan that is none changes nothing", hall.back(2), true);
        Due.plan(hall, "part a:int=4 then a-1;show q:int=12/a;bell r when a<4;");
        Due.due("the same text read anew", hall.back(2), false);
        Due.due("all stays", hall.value(0, 0), 4);
    }

    public static void main(String[] args) {
        promise12Tick();
        promise13Strike();
        promise14Ask();
        promise15Told();
        promise16Await();
        promise25Keep();
        promise26Back();
        Due.finish("TicksPromisesTest");
    }
}
