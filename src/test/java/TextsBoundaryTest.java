/** Promises 1 to 11 at their boundaries. */
public final class TextsBoundaryTest {
    private static final int[] FAR = {Integer.MIN_VALUE, Integer.MIN_VALUE + 1, -1000000007, -200, -100, -2, -1};
    private static final int BLANKS = 0x20202020;

    private static int feedBlanks(TurningHall hall) {
        return hall.feed(BLANKS, BLANKS, BLANKS, BLANKS, BLANKS);
    }

    private static void newObject() {
        Due.sentence("TurningHall(): An empty tape and plan, STEP 1.0, nothing kept, no TEXT");
        TurningHall hall = new TurningHall();
        for (int what = 0; what <= 7; what++) {
            Due.due("count " + what, hall.count(what), 0);
        }
        for (int place = 0; place < 4; place++) {
            Due.due("kept " + place, hall.back(place), false);
        }
        Due.due("TEXT", hall.octet(0), -1);
        Due.due("ticks", hall.tick(0), 0);
        Due.told(hall, "step", 7, Due.bits(1.0));
        Due.due("the empty plan ticks", hall.tick(500), 500);
        Due.due("another object's is its own", new TurningHall().tick(0), 0);
    }

    private static void feed() {
        Due.sentence("feed: how many there are; NONE, when there would be more than 3000");
        TurningHall hall = new TurningHall();
        for (int n = 20; n <= 2980; n += 20) {
            Due.due("feed", feedBlanks(hall), n);
        }
        for (int n : new int[] {2980, 2979, 2961, 0}) {
            hall.end(n);
            Due.due("feed behind " + n, feedBlanks(hall), n + 20);
        }
        TurningHall full = new TurningHall();
        for (int n = 20; n <= 3000; n += 20) {
            feedBlanks(full);
        }
        Due.due("full", full.count(4), 3000);
        for (int n = 3000; n > 2980; n--) {
            full.end(n);
            Due.due("feed behind " + n, feedBlanks(full), -1);
            Due.due("all stays", full.count(4), n);
        }
        full.end(2980);
        Due.due("just enough", feedBlanks(full), 3000);
        Due.due("none of it is lost", full.plan(), 0);
        Due.sentence("feed: Twenty bytes come behind those on the tape, of each number the highest first");
        TurningHall order = new TurningHall();
        order.feed(0x73686F77, 0x2061623A, 0x696E743D, 0x3132333B, 0x73686F77);
        Due.due("behind", order.feed(0x2063643A, 0x6C6F6E67, 0x3D343B20, BLANKS, BLANKS), 40);
        Due.due("show ab:int=123;show cd:long=4;", order.plan(), 2);
        Due.due("a", order.letter(0, 0), 'a');
        Due.due("b", order.letter(0, 1), 'b');
        Due.due("d", order.letter(1, 1), 'd');
        Due.due("123", order.value(0, 0), 123);
        // A byte of 128 and more is one of its own and no sign of the number.
        order.feed(0x31FFFFFF, -1, -1, -1, -1);
        order.end(1);
        Due.due("1", order.ask(), 4);
        order.feed(0x31200000, 0x80000000, 0, 0, 0);
        Due.due("a 0 is no blank", order.ask(), -1 - 2);
        order.feed(0x20202080, BLANKS, BLANKS, BLANKS, BLANKS);
        Due.due("128", order.ask(), -1 - 3);
    }

    private static void end() {
        Due.sentence("end: The tape has its first n bytes alone: n; NONE when it has not so many, or n is below 0");
        TurningHall hall = new TurningHall();
        Due.due("0 of none", hall.end(0), 0);
        Due.due("1 of none", hall.end(1), -1);
        feedBlanks(hall);
        Due.due("20 of 20", hall.end(20), 20);
        Due.due("21 of 20", hall.end(21), -1);
        Due.due("19 of 20", hall.end(19), 19);
        Due.due("20 of 19", hall.end(20), -1);
        for (int n : FAR) {
            Due.due("end " + n, hall.end(n), -1);
        }
        Due.due("greatest", hall.end(Integer.MAX_VALUE), -1);
        Due.due("all stays", hall.count(4), 19);
        Due.due("1", hall.end(1), 1);
        Due.due("0", hall.end(0), 0);
        Due.due("none is left", hall.end(1), -1);
        TurningHall full = new TurningHall();
        for (int n = 20; n <= 3000; n += 20) {
            feedBlanks(full);
        }
        Due.due("3001", full.end(3001), -1);
        Due.due("3000", full.end(3000), 3000);
        Due.due("2999", full.end(2999), 2999);
    }

    private static void plan() {
        Due.sentence("plan: The tape (empty then, in any case) becomes the plan: how many things");
        TurningHall hall = new TurningHall();
        Due.due("empty", hall.plan(), 0);
        Due.due("one", Due.plan(hall, "show a:int=1;"), 1);
        Due.due("tape", hall.count(4), 0);
        Due.due("bells and cams are none", Due.plan(hall, "bell b when true;cam c=1;"), 0);
        Due.due("the empty one again", hall.plan(), 0);
        Due.due("no bells", hall.count(1), 0);
        Due.due("no nodes", hall.count(3), 0);
        Due.sentence("plan: -1 - the place of a FAULT: all stays");
        Due.plan(hall, "part a:int=1 then a*2;bell b when a>4;cam c=1,2;");
        hall.step(Due.bits(0.25));
        hall.tick(4);
        hall.keep(3);
        Due.told(hall, "a+1", 4, 17);
        hall.dial(Due.bits(2.5), 1);
        hall.train(Due.bits(2), 1, 4, 8);
        String[] faults = {"$", "part", "show a:int=x;", "show a:int=true;", "part a:int=1 then a*2;bell a when true;"};
        int[] places = {0, 4, 11, 10, 27};
        int[] kinds = {1, 1, 3, 4, 3};
        for (int k = 0; k < faults.length; k++) {
            Due.due(faults[k], Due.plan(hall, faults[k]), -1 - places[k]);
            Due.due("kind", hall.fault(), kinds[k]);
            Due.due("tape", hall.count(4), 0);
            Due.due("things", hall.count(0), 1);
            Due.due("bells", hall.count(1), 1);
            Due.due("cams", hall.count(2), 1);
            Due.due("nodes", hall.count(3), 7);
            Due.due("name", hall.letter(100, 0), 'b');
            Due.due("value", hall.value(0, 0), 16);
            Due.due("past", hall.value(0, 4), 1);
            Due.due("ticks", hall.tick(0), 4);
            Due.due("strikes", hall.count(5), 2);
            Due.due("strike", hall.strike(1, 0), 3);
            Due.due("told", hall.told(), 17);
            Due.due("TEXT", hall.count(6), 3);
            Due.due("wheel", hall.wheel(0), 8);
            Due.due("kept", hall.back(3), true);
        }
        Due.told(hall, "step+c[1]", 7, Due.bits(2.25));
        hall.tick(1);
        Due.due("it goes on", hall.value(0, 0), 32);
    }

    /** A plan of less than the two that were read before it: nothing of those is left. */
    private static void formerPlans() {
        Due.sentence("plan: The tape becomes the plan (and nothing else is)");
        String large = "part a:int=1 then a+1;part b:int=2 then 3;bell c when true;bell d when true;cam e=1,2;cam f=3,4;cam g=5;";
        TurningHall hall = new TurningHall();
        Due.due("large", Due.plan(hall, large), 2);
        Due.due("large again", Due.plan(hall, large), 2);
        hall.tick(3);
        Due.due("small", Due.plan(hall, "part a:int=7 then a;cam e=9;"), 1);
        hall.tick(2);
        Due.due("no bell strikes", hall.count(5), 0);
        Due.due("no part", hall.set(1, 5), false);
        Due.due("no value", hall.value(1, 0), 0);
        Due.due("no past", hall.value(1, 1), 0);
        for (int i : new int[] {1, 100, 101, 201, 202}) {
            Due.due("no name of " + i, hall.letter(i, 0), -1);
            Due.due("no thing " + i, hall.thing(i, 2), -1);
        }
        for (String name : new String[] {"b", "c", "d", "f[0]", "g[0]"}) {
            Due.due("no " + name, Due.ask(hall, name), -1);
        }
        Due.told(hall, "e[0]", 7, Due.bits(9));
        Due.due("no second number", Due.ask(hall, "e[1]"), 12);
        // The names of the former two are free.
        TurningHall free = new TurningHall();
        Due.plan(free, large);
        Due.plan(free, large);
        Due.due("other things", Due.plan(free, "cam c=1;bell b when true;part e:int=1 then 1;show f:int=1;show d:int=1;"), 3);
        Due.plan(free, "show b:int=1;");
        Due.due("other things", Due.plan(free, "part g:int=1 then 1;cam a=1;bell e when true;"), 1);
        String[] fewer = {"bell a when true;", "part c:int=1 then 1;", "show e:int=1;", "bell c when true;show d:int=1;",
            "part a:int=1 then 1;cam b=1;", "cam e=1;bell f when true;"};
        for (String text : fewer) {
            TurningHall twice = new TurningHall();
            Due.plan(twice, large);
            Due.plan(twice, large);
            Due.due("behind the places of the former names: " + text, Due.plan(twice, Due.times(" ", 200) + text) >= 0, true);
        }
        Due.due("the empty one", free.plan(), 0);
        for (int i : new int[] {0, 100, 200}) {
            Due.due("no name of " + i, free.letter(i, 0), -1);
        }
    }

    /** As many things, bells, cams, numbers and nodes as can be, all with names of 10 bytes. */
    private static String fullestText() {
        StringBuilder text = new StringBuilder();
        for (int k = 0; k < 8; k++) {
            text.append("cam ccccccccc").append(k).append("=").append(k).append(Due.times(",1", 22)).append(",").append(k).append(";");
        }
        for (int k = 0; k < 12; k++) {
            text.append("bell bbbbbbbb").append(10 + k).append(" when ticks==").append(k + 1).append(";");
        }
        String sum = Due.times("+0", 171);
        for (int k = 0; k < 40; k++) {
            text.append("part aaaaaaaa").append(10 + k).append(":int=").append(k).append(" then ").append(k + 50);
            text.append(k == 39 ? sum : "").append(";");
        }
        // 12 times 3, 40 times 2, and 342 of the sum; what is missing to 500 are 42 signs ahead.
        return text.toString().replace("then 51;", "then " + Due.times("-", 40) + "51;").replace("then 52;", "then - -52;");
    }

    private static void fullestPlan() {
        Due.sentence("plan: how many things (40, with 12 bells, 8 cams of 24 numbers, 500 nodes)");
        String full = fullestText();
        Due.due("bytes", full.length() <= 3000, true);
        TurningHall hall = new TurningHall();
        Due.due("things", Due.plan(hall, full), 40);
        Due.due("bells", hall.count(1), 12);
        Due.due("cams", hall.count(2), 8);
        Due.due("nodes", hall.count(3), 500);
        for (int k = 0; k < 40; k++) {
            Due.due("first value " + k, hall.value(k, 0), k);
            Due.due("last byte of thing " + k, hall.letter(k, 9), '0' + k % 10);
            Due.due("first byte of thing " + k, hall.letter(k, 0), 'a');
        }
        Due.due("ticks", hall.tick(12), 12);
        for (int k = 0; k < 40; k++) {
            Due.due("next value " + k, hall.value(k, 0), k + 50);
        }
        for (int k = 0; k < 12; k++) {
            Due.due("COUNT " + k, hall.thing(100 + k, 6), 1);
            Due.due("tick " + k, hall.strike(11 - k, 0), k + 1);
            Due.due("bell " + k, hall.strike(11 - k, 1), k);
            Due.due("first byte of bell " + k, hall.letter(100 + k, 0), 'b');
        }
        TurningHall cams = Due.planned(full);
        for (int k = 0; k < 8; k++) {
            Due.due("first byte of cam " + k, cams.letter(200 + k, 0), 'c');
            Due.told(cams, "ccccccccc" + k + "[0]", 7, Due.bits(k));
            Due.told(cams, "ccccccccc" + k + "[23]", 7, Due.bits(k));
        }
        cams.tick(12);
        Due.due("keep", cams.keep(0), true);
        cams.tick(31);
        Due.due("the last past of the last thing", cams.value(39, 31), 89);
        Due.due("back", cams.back(0), true);
        Due.due("the first past", cams.value(39, 12), 39);
        Due.faultyPlan(full + "bell x", 1, full.length() + 6);
        Due.faultyPlan(full.replace("then 53;", "then -53;"), 2, full.length() - 1);
    }

    private static void fault() {
        Due.sentence("fault: The kind of the FAULT of the latest plan(), ask() or await() (0 without one, and ahead of any)");
        TurningHall hall = new TurningHall();
        Due.due("ahead of any", hall.fault(), 0);
        String[] texts = {"$", "-1" + Due.times("+1", 250), "x", "!1", "true"};
        int[] kinds = {1, 2, 3, 4, 0};
        for (int k = 0; k < texts.length; k++) {
            Due.ask(hall, texts[k]);
            Due.due("asked " + texts[k], hall.fault(), kinds[k]);
        }
        for (int k = 0; k < texts.length; k++) {
            Due.await(hall, texts[k], 0);
            Due.due("awaited " + texts[k], hall.fault(), kinds[k]);
        }
        for (int k = 0; k < texts.length; k++) {
            Due.plan(hall, "bell b when " + texts[k] + ";");
            Due.due("planned " + texts[k], hall.fault(), kinds[k]);
        }
        Due.ask(hall, "$");
        hall.tick(1);
        hall.keep(0);
        hall.back(0);
        hall.dial(0, 0);
        hall.count(0);
        Due.due("other calls leave it", hall.fault(), 1);
        Due.ask(hall, "1/0");
        Due.due("a JAM is none", hall.fault(), 0);
        Due.ask(hall, "$");
        Due.await(hall, "1/0==0", 1);
        Due.due("a JAM is none", hall.fault(), 0);
    }

    private static void count() {
        Due.sentence("count: .. NONE for another what");
        TurningHall hall = Due.planned("show a:int=1;bell b when true;bell c when true;cam d=1;cam e=1;cam f=1;");
        hall.tick(2);
        hall.dial(Due.bits(1.5), 3);
        hall.train(Due.bits(1), 2, 4, 4);
        feedBlanks(hall);
        int[] due = {1, 2, 3, 3, 20, 4, 5, 4};
        for (int what = 0; what <= 7; what++) {
            Due.due("count " + what, hall.count(what), due[what]);
        }
        Due.due("count 8", hall.count(8), -1);
        Due.due("greatest", hall.count(Integer.MAX_VALUE), -1);
        for (int what : FAR) {
            Due.due("count " + what, hall.count(what), -1);
        }
    }

    private static void thing() {
        Due.sentence("thing: .. NONE when there is none such, or another what");
        String text = "part a:char=(char)1 then a;show bcd:double=1.0/0;bell ef when true;bell g when 1/0==0;cam h=1;";
        TurningHall hall = Due.planned(text);
        hall.tick(1);
        int[][] due = {{3, 1, 1, 0, 0, -1, -1}, {7, 0, 3, 2, 2, text.indexOf("/0;"), -1}, {-1, -1, 2, 0, 0, -1, 1},
            {-1, -1, 1, 1, 1, text.indexOf("/0=="), 0}};
        int[] numbers = {0, 1, 100, 101};
        for (int k = 0; k < 4; k++) {
            for (int what = 0; what <= 6; what++) {
                Due.due("thing " + numbers[k] + " " + what, hall.thing(numbers[k], what), due[k][what]);
            }
            Due.due("what 7 of " + numbers[k], hall.thing(numbers[k], 7), -1);
            for (int what : FAR) {
                Due.due("what " + what + " of " + numbers[k], hall.thing(numbers[k], what), -1);
            }
            Due.due("greatest", hall.thing(numbers[k], Integer.MAX_VALUE), -1);
        }
        for (int i : new int[] {2, 39, 40, 41, 98, 99, 102, 111, 112, 199, 200, 201, 300, Integer.MAX_VALUE}) {
            for (int what = 0; what <= 6; what++) {
                Due.due("thing " + i + " " + what, hall.thing(i, what), -1);
            }
        }
        for (int i : FAR) {
            Due.due("thing " + i, hall.thing(i, 2), -1);
        }
    }

    private static void letter() {
        Due.sentence("letter: Byte k of the name of thing i, of bell i - 100, of cam i - 200; NONE when there is none such");
        TurningHall hall = Due.planned("part a:int=1 then a;show bc:int=1;bell abcdefghij when true;cam xy=1;cam z9=1;");
        String[] names = {"a", "bc", "abcdefghij", "xy", "z9"};
        int[] numbers = {0, 1, 100, 200, 201};
        for (int n = 0; n < 5; n++) {
            for (int k = 0; k < names[n].length(); k++) {
                Due.due("letter", hall.letter(numbers[n], k), names[n].charAt(k));
            }
            for (int k : new int[] {names[n].length(), 10, 11, Integer.MAX_VALUE, -1, Integer.MIN_VALUE}) {
                Due.due("letter " + numbers[n] + " " + k, hall.letter(numbers[n], k), -1);
            }
        }
        for (int i : new int[] {2, 40, 99, 101, 112, 199, 202, 208, 300, Integer.MAX_VALUE}) {
            Due.due("letter of " + i, hall.letter(i, 0), -1);
        }
        for (int i : FAR) {
            Due.due("letter of " + i, hall.letter(i, 0), -1);
        }
        // Of a shorter name nothing of a longer one that stood there is left.
        Due.plan(hall, "bell qr when true;");
        Due.due("r", hall.letter(100, 1), 'r');
        Due.due("no more", hall.letter(100, 2), -1);
        Due.due("no thing", hall.letter(0, 0), -1);
        Due.due("no cam", hall.letter(200, 0), -1);
    }

    private static void value() {
        Due.sentence("value: .. what they were ahead of the latest tick of this plan, of the one before, .. (ago 1 .. 31; 0 when there was none)");
        TurningHall hall = Due.planned("part a:int=100 then a+1;show b:int=-a;");
        for (int n = 0; n <= 34; n++) {
            for (int ago : new int[] {0, 1, 2, n - 1, n, n + 1, 30, 31, 32}) {
                boolean was = ago >= 0 && ago <= 31 && ago <= n;
                Due.due("behind " + n + " ago " + ago, hall.value(0, ago), was ? 100 + n - ago : 0);
            }
            hall.tick(1);
        }
        Due.due("of a show, too", hall.value(1, 31), -(135 - 31));
        Due.sentence("value: 0 when there is no such thing, or for another ago");
        for (int ago : new int[] {32, 33, 62, 63, 64, Integer.MAX_VALUE}) {
            Due.due("ago " + ago, hall.value(0, ago), 0);
        }
        for (int ago : FAR) {
            Due.due("ago " + ago, hall.value(0, ago), 0);
            Due.due("of " + ago, hall.value(ago, 0), 0);
            Due.due("of " + ago, hall.value(ago, 1), 0);
        }
        for (int i : new int[] {2, 39, 40, 100, 200, Integer.MAX_VALUE}) {
            Due.due("of " + i, hall.value(i, 0), 0);
            Due.due("of " + i, hall.value(i, 1), 0);
        }
        Due.sentence("value: .. of the latest tick of this plan; set() doesn't change these");
        Due.plan(hall, "part a:int=7 then a;part b:int=8 then b;");
        Due.due("no tick of this plan", hall.value(0, 1), 0);
        Due.due("set", hall.set(0, 70), true);
        Due.due("still none", hall.value(0, 1), 0);
        hall.tick(1);
        Due.due("as it was set ahead of the tick", hall.value(0, 1), 70);
        Due.due("no older one", hall.value(0, 2), 0);
        Due.due("of b", hall.value(1, 1), 8);
        hall.set(0, 71);
        Due.due("not changed", hall.value(0, 1), 70);
        Due.due("changed", hall.value(0, 0), 71);
        hall.tick(2);
        Due.due("71", hall.value(0, 2), 71);
        Due.due("70", hall.value(0, 3), 70);
    }

    private static void set() {
        Due.sentence("set: of TRUTH the lowest bit; of wholes the lowest 8, 16, 32, with sign but for CHAR; of a FLOAT the lowest 32");
        TurningHall hall = Due.planned("part t:truth=false then t;part b:byte=(byte)1 then b;part s:short=(short)1 then s;"
            + "part c:char=(char)1 then c;part i:int=1 then i;part l:long=1 then l;part f:float=1 then f;part d:double=1 then d;");
        long[] bits = {0, 1, 2, 3, -1, -2, 127, 128, 255, 256, -128, -129, 32767, 32768, 65535, 65536, -32768, -32769, 2147483647L,
            2147483648L, 4294967295L, 4294967296L, -2147483648L, -2147483649L, Long.MAX_VALUE - 0x7FFFFFL, Long.MIN_VALUE};
        for (long b : bits) {
            long[] due = {b & 1, (byte) b, (short) b, (char) b, (int) b, b};
            for (int i = 0; i < 6; i++) {
                Due.due("set " + i + " to " + b, hall.set(i, b), true);
                Due.due("set " + i + " to " + b, hall.value(i, 0), due[i]);
            }
        }
        Due.due("a FLOAT's lowest 32", hall.set(6, 0xFFFFFFFF3F800000L), true);
        Due.due("1f", hall.value(6, 0), 0x3F800000L);
        Due.due("with a highest bit", hall.set(6, 0x00000000BF800000L), true);
        Due.due("-1f", hall.value(6, 0), 0xFFFFFFFFBF800000L);
        Due.sentence("set: false, when there is no such part, or a real that is not finite");
        Due.due("not finite", hall.set(6, 0x7F800000L), false);
        Due.due("not finite", hall.set(6, 0x3F8000007F800000L), false);
        Due.due("not finite", hall.set(6, 0xFF800000L), false);
        Due.due("not finite", hall.set(6, -1), false);
        Due.due("as it was", hall.value(6, 0), 0xFFFFFFFFBF800000L);
        Due.due("greatest", hall.set(7, Due.bits(Double.MAX_VALUE)), true);
        Due.due("not finite", hall.set(7, Due.bits(Double.POSITIVE_INFINITY)), false);
        Due.due("not finite", hall.set(7, Due.bits(Double.NEGATIVE_INFINITY)), false);
        Due.due("not finite", hall.set(7, -1), false);
        Due.due("as it was", hall.value(7, 0), Due.bits(Double.MAX_VALUE));
        for (int i : new int[] {8, 39, 40, 99, 100, 200, Integer.MAX_VALUE}) {
            Due.due("set " + i, hall.set(i, 0), false);
        }
        for (int i : FAR) {
            Due.due("set " + i, hall.set(i, 0), false);
        }
        TurningHall shows = Due.planned("show a:int=1;part b:int=2 then b;show c:int=3;");
        Due.due("a show", shows.set(0, 5), false);
        Due.due("a part", shows.set(1, 5), true);
        Due.due("a show", shows.set(2, 5), false);
        Due.due("as it was", shows.value(0, 0), 1);
        Due.due("what a set refuses leaves OLD", shows.set(1, 6) && shows.tick(1) == 1 && !shows.set(3, 9), true);
        Due.told(shows, "old(b)", 4, 6);
    }

    private static void step() {
        Due.sentence("step: STEP becomes the DOUBLE with these BITS: false, when that is not finite");
        TurningHall hall = new TurningHall();
        double[] finite = {0.0, -0.0, Double.MIN_VALUE, -Double.MIN_VALUE, Double.MAX_VALUE, -Double.MAX_VALUE, 0.5};
        for (double x : finite) {
            Due.due("step " + x, hall.step(Due.bits(x)), true);
            Due.told(hall, "step", 7, Due.bits(x));
        }
        long infinite = Due.bits(Double.POSITIVE_INFINITY);
        for (long bits : new long[] {infinite, infinite + 1, Long.MAX_VALUE, Long.MIN_VALUE + infinite, Long.MIN_VALUE + infinite + 1, -1}) {
            Due.due("step by BITS " + bits, hall.step(bits), false);
        }
        Due.told(hall, "step", 7, Due.bits(0.5));
        Due.sentence("step: It stays with a new plan");
        Due.plan(hall, "part a:double=step then a+step;");
        Due.due("at first", hall.value(0, 0), Due.bits(0.5));
        hall.step(Due.bits(2));
        Due.due("nothing changes by it", hall.value(0, 0), Due.bits(0.5));
        hall.tick(1);
        Due.due("by the next tick", hall.value(0, 0), Due.bits(2.5));
        Due.plan(hall, "");
        Due.told(hall, "step", 7, Due.bits(2));
    }

    public static void main(String[] args) {
        newObject();
        feed();
        end();
        plan();
        formerPlans();
        fullestPlan();
        fault();
        count();
        thing();
        letter();
        value();
        set();
        step();
        Due.finish("TextsBoundaryTest");
    }
}
