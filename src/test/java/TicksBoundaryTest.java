/** Promises 12 to 16, 25 and 26 at their boundaries. */
public final class TicksBoundaryTest {
    private static final int[] NO_TICKS = {-1, -2, -500, 501, 502, 1000, 65536, Integer.MAX_VALUE, Integer.MIN_VALUE};

    private static void tick() {
        Due.sentence("tick: n TICKS (0 .. 500): ticks in all; NONE for another n");
        TurningHall hall = Due.planned("part a:int=0 then a+1;bell b when true;");
        Due.due("0", hall.tick(0), 0);
        Due.due("nothing ticked", hall.value(0, 0), 0);
        Due.due("1", hall.tick(1), 1);
        Due.due("499", hall.tick(499), 500);
        Due.due("500", hall.tick(500), 1000);
        Due.due("a", hall.value(0, 0), 1000);
        for (int n : NO_TICKS) {
            Due.due("tick " + n, hall.tick(n), -1);
        }
        Due.due("nothing ticked", hall.tick(0), 1000);
        Due.due("a", hall.value(0, 0), 1000);
        Due.due("COUNT", hall.thing(100, 6), 1000);
        // As many as 512 calls can tick.
        TurningHall often = Due.planned("part a:short=(short)0 then (short)(a+1);part b:int=2147483000 then b+1;");
        for (int k = 1; k <= 400; k++) {
            Due.due("ticks", often.tick(500), 500L * k);
        }
        Due.due("a SHORT", often.value(0, 0), (short) 200000);
        Due.due("wrapped", often.value(1, 0), 2147483000 + 200000);
        Due.told(often, "ticks", 5, 200000);
    }

    private static void strike() {
        Due.sentence("strike: its tick (what 0), its bell (1); NONE when there is none such, or for another what");
        TurningHall hall = Due.planned("bell a when ticks==2;bell b when ticks>=2;");
        Due.due("ahead of any tick", hall.strike(0, 0), -1);
        hall.tick(1);
        Due.due("ahead of any strike", hall.strike(0, 0), -1);
        hall.tick(1);
        Due.due("latest tick", hall.strike(0, 0), 2);
        Due.due("latest bell", hall.strike(0, 1), 1);
        Due.due("first tick", hall.strike(1, 0), 2);
        Due.due("first bell", hall.strike(1, 1), 0);
        Due.due("none", hall.strike(2, 0), -1);
        Due.due("none", hall.strike(2, 1), -1);
        for (int k : new int[] {-1, -64, 63, 64, 65, Integer.MAX_VALUE, Integer.MIN_VALUE}) {
            Due.due("strike " + k, hall.strike(k, 0), -1);
            Due.due("strike " + k, hall.strike(k, 1), -1);
        }
        for (int what : new int[] {-1, 2, 3, Integer.MAX_VALUE, Integer.MIN_VALUE}) {
            Due.due("what " + what, hall.strike(0, what), -1);
        }
    }

    private static void ask() {
        Due.sentence("ask: its sort; 8 and the JAM's kind; -1 - the place of a FAULT");
        TurningHall hall = Due.planned("part a:int=1 then a+1;cam c=1;");
        hall.tick(2);
        String[] texts = {"true", "(byte)1", "(short)1", "(char)1", "1", "1l", "1f", "1.0"};
        for (int sort = 0; sort < 8; sort++) {
            Due.due(texts[sort], Due.ask(hall, texts[sort]), sort);
        }
        Due.due("jam 1", Due.ask(hall, "1/0"), 9);
        Due.due("jam 2", Due.ask(hall, "1/0.0"), 10);
        Due.due("jam 3", Due.ask(hall, "1p1023*2"), 11);
        Due.due("jam 4", Due.ask(hall, "c[1]"), 12);
        Due.due("fault at 0", Due.ask(hall, "$"), -1);
        Due.due("fault at 1", Due.ask(hall, " $"), -2);
        Due.due("fault at the end of a full tape", Due.ask(hall, Due.times(" ", 3000)), -3001);
        Due.sentence("ask: The tape (empty then) is an E, worked out now (old as of the latest tick)");
        Due.due("tape", hall.count(4), 0);
        Due.due("an empty one", hall.ask(), -1);
        Due.told(hall, "a*10+old(a)", 4, 32);
        Due.due("nothing ticked", hall.tick(0), 2);
        Due.due("a jam is no thing's", hall.thing(0, 3), 0);
        hall.set(0, 50);
        Due.told(hall, "a*100+old(a)", 4, 5050);
    }

    private static void told() {
        Due.sentence("told: The BITS of the latest ask() that gave a value (0 ahead of any; others leave them)");
        TurningHall hall = new TurningHall();
        Due.due("ahead of any", hall.told(), 0);
        Due.ask(hall, "1/0");
        Due.due("a jam ahead of any", hall.told(), 0);
        Due.ask(hall, "$");
        Due.due("a fault ahead of any", hall.told(), 0);
        Due.await(hall, "true", 0);
        Due.due("an await", hall.told(), 0);
        Due.told(hall, "-5", 4, -5);
        String[] leaving = {"1/0", "1.0/0", "$", "x", "!1", "", "-1" + Due.times("+1", 250)};
        for (String text : leaving) {
            Due.ask(hall, text);
            Due.due("behind " + text, hall.told(), -5);
        }
        Due.await(hall, "true", 5);
        Due.plan(hall, "show a:int=1;");
        hall.keep(0);
        Due.told(hall, "9", 4, 9);
        hall.back(0);
        Due.due("back() leaves it", hall.told(), 9);
        Due.told(hall, "false", 0, 0);
    }

    private static void await() {
        Due.sentence("await: .. a TRUTH (else FAULT 4 at 0)");
        TurningHall hall = Due.planned("part a:int=0 then a+1;");
        for (String text : new String[] {"1", "a", "1.5", "(byte)1", "ticks", "1f", "true?1:2"}) {
            Due.due(text, Due.await(hall, text, 3), -1);
            Due.due(text, hall.fault(), 4);
            Due.due("tape", hall.count(4), 0);
        }
        Due.due("nothing ticked", hall.tick(0), 0);
        Due.due("a TRUTH", Due.await(hall, "true", 3), 0);
        Due.due("no fault", hall.fault(), 0);
        Due.sentence("await: it is asked, then a TICK, and so on, till it is true, or n ticks (0 .. 500) are done and it was asked once more");
        Due.due("0: true", Due.await(hall, "a==0", 0), 0);
        Due.due("0: false", Due.await(hall, "a==1", 0), -2);
        Due.due("nothing ticked", hall.tick(0), 0);
        Due.due("1: just then", Due.await(hall, "a==1", 1), 1);
        Due.due("one too few", Due.await(hall, "a==4", 2), -2);
        Due.due("ticked all the same", hall.tick(0), 3);
        Due.due("one", Due.await(hall, "a==4", 2), 1);
        Due.due("no more than that", hall.tick(0), 4);
        Due.due("499 are too few", Due.await(hall, "a==504", 499), -2);
        Due.due("at 503", hall.tick(0), 503);
        Due.due("500 are enough", Due.await(hall, "a==1003", 500), 500);
        Due.due("500 are too few", Due.await(hall, "a==1504", 500), -2);
        Due.due("at 1503", hall.tick(0), 1503);
        Due.sentence("await: -3 when it jams (what was ticked stays)");
        Due.due("at once", Due.await(hall, "1/0==0", 5), -3);
        Due.due("nothing ticked", hall.tick(0), 1503);
        Due.due("at the last", Due.await(hall, "1/(1505-a)==9", 2), -3);
        Due.due("ticked", hall.tick(0), 1505);
        Due.due("one tick ahead of it", Due.await(hall, "1/(1507-a)==9", 1), -2);
        Due.due("ticked", hall.tick(0), 1506);
        Due.due("true ahead of it", Due.await(hall, "a==1507||1/(1508-a)==9", 5), 1);
        Due.sentence("await: NONE for another n (the tape is empty all the same; fault() stays), or with a FAULT");
        Due.ask(hall, "x");
        for (int n : NO_TICKS) {
            Due.due("await " + n, Due.await(hall, "true", n), -1);
            Due.due("tape", hall.count(4), 0);
            Due.due("fault", hall.fault(), 3);
        }
        Due.ask(hall, "1");
        Due.due("a fault and another n", Due.await(hall, "$", 501), -1);
        Due.due("fault", hall.fault(), 0);
        Due.due("a fault", Due.await(hall, "$", 500), -1);
        Due.due("fault", hall.fault(), 1);
        Due.due("tape", hall.count(4), 0);
        Due.due("a name", Due.await(hall, "b==1", 5), -1);
        Due.due("fault", hall.fault(), 3);
        Due.due("empty", hall.await(5), -1);
        Due.due("fault", hall.fault(), 1);
        Due.due("nothing ticked", hall.tick(0), 1507);
    }

    private static void keep() {
        Due.sentence("keep: .. in a place 0 .. 3, for this plan (the empty one, too), instead of what was kept there: false for another place");
        TurningHall hall = new TurningHall();
        for (int place : new int[] {-1, 4, 5, Integer.MAX_VALUE, Integer.MIN_VALUE}) {
            Due.due("keep " + place, hall.keep(place), false);
            Due.due("back " + place, hall.back(place), false);
        }
        for (int place = 0; place < 4; place++) {
            Due.due("nothing yet " + place, hall.back(place), false);
        }
        for (int place = 0; place < 4; place++) {
            hall.tick(1);
            Due.due("keep " + place, hall.keep(place), true);
            Due.due("the next has nothing", hall.back(place + 1), false);
        }
        for (int place = 3; place >= 0; place--) {
            Due.due("back " + place, hall.back(place), true);
            Due.due("ticks of " + place, hall.tick(0), place + 1);
        }
        hall.tick(10);
        Due.due("instead", hall.keep(2), true);
        Due.due("back to another", hall.back(0), true);
        Due.due("ticks", hall.tick(0), 1);
        Due.due("back", hall.back(2), true);
        Due.due("ticks", hall.tick(0), 11);
        Due.sentence("keep: All that things, bells, ticks, STRIKES, pasts are, and STEP");
        String plan = "part a:int=1 then a*2;part q:int=8 then 8/(4-a);bell b when a>1;show d:double=a*step;";
        TurningHall all = Due.planned(plan);
        all.tick(2);
        all.step(Due.bits(0.5));
        all.set(1, 77);
        all.keep(0);
        all.step(Due.bits(4));
        all.tick(40);
        all.set(1, 5);
        Due.due("back", all.back(0), true);
        Due.due("a", all.value(0, 0), 4);
        Due.due("q", all.value(1, 0), 77);
        Due.due("ticks", all.tick(0), 2);
        Due.due("jams", all.thing(1, 3), 1);
        Due.due("kind", all.thing(1, 4), 1);
        Due.due("place", all.thing(1, 5), plan.indexOf("/(4"));
        Due.due("COUNT", all.thing(100, 6), 2);
        Due.due("strikes", all.count(5), 2);
        Due.due("strike", all.strike(0, 0), 2);
        Due.due("strike", all.strike(1, 0), 1);
        Due.due("past 1", all.value(0, 1), 2);
        Due.due("past 2", all.value(0, 2), 1);
        Due.due("no past", all.value(0, 3), 0);
        Due.told(all, "old(q)", 4, 77);
        Due.told(all, "old(a)", 4, 2);
        Due.told(all, "step", 7, Due.bits(0.5));
        all.tick(1);
        Due.due("goes on", all.value(0, 0), 8);
        Due.due("by STEP", all.value(2, 0), Due.bits(4));
        Due.due("the strike behind", all.strike(0, 0), 3);
        Due.due("strikes", all.count(5), 3);
    }

    private static void back() {
        Due.sentence("back: What was kept there comes back (and stays kept)");
        TurningHall hall = Due.planned("part a:int=1 then a+1;");
        hall.keep(1);
        for (int k = 1; k <= 3; k++) {
            hall.tick(k);
            hall.set(0, 90);
            Due.due("back", hall.back(1), true);
            Due.due("a", hall.value(0, 0), 1);
            Due.due("ticks", hall.tick(0), 0);
            Due.due("past", hall.value(0, 1), 0);
        }
        Due.due("back twice", hall.back(1), true);
        // All 31 pasts and 64 strikes come back, whatever was in their place by then.
        TurningHall pasts = Due.planned("part a:int=0 then a+1;bell b when true;");
        pasts.tick(70);
        pasts.keep(0);
        pasts.tick(45);
        pasts.back(0);
        for (int ago = 0; ago <= 31; ago++) {
            Due.due("ago " + ago, pasts.value(0, ago), 70 - ago);
        }
        Due.due("ago 32", pasts.value(0, 32), 0);
        for (int k = 0; k < 64; k++) {
            Due.due("strike " + k, pasts.strike(k, 0), 70 - k);
        }
        Due.due("strike 64", pasts.strike(64, 0), -1);
        Due.sentence("back: false, when nothing is, or it was for another plan (also the same text read anew)");
        Due.due("nothing is", hall.back(0), false);
        Due.due("nothing is", hall.back(2), false);
        hall.tick(5);
        Due.plan(hall, "part a:int=1 then ;");
        Due.due("a text with a FAULT is no other plan", hall.back(1), true);
        Due.ask(hall, "a+1");
        Due.await(hall, "a==3", 9);
        Due.due("what is asked is no plan", hall.back(1), true);
        Due.plan(hall, "part a:int=1 then a+1;");
        hall.tick(2);
        Due.due("the same text read anew", hall.back(1), false);
        Due.due("all stays", hall.value(0, 0), 3);
        Due.due("ticks stay", hall.tick(0), 2);
        Due.due("kept for this one", hall.keep(1), true);
        Due.due("comes back", hall.back(1), true);
        Due.due("the empty plan", hall.plan(), 0);
        Due.due("for another", hall.back(1), false);
        Due.due("keep", hall.keep(0), true);
        Due.due("back", hall.back(0), true);
        Due.due("the empty plan read anew", hall.plan(), 0);
        Due.due("for another", hall.back(0), false);
        TurningHall first = new TurningHall();
        first.keep(0);
        first.plan();
        Due.due("the empty text is another than a new object's", first.back(0), false);
    }

    public static void main(String[] args) {
        tick();
        strike();
        ask();
        told();
        await();
        keep();
        back();
        Due.finish("TicksBoundaryTest");
    }
}
