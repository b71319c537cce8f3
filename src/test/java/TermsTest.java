/** The Terms: numbers, texts, faults, sorts and working, with answers taken from the document by hand. */
public final class TermsTest {
    private static void wholes() {
        Due.told("7%3", 4, 1);
        Due.told("-7%3", 4, -1);
        Due.told("7%-3", 4, 1);
        Due.told("-7/2", 4, -3);
        Due.told("2147483647+1", 4, Integer.MIN_VALUE);
        Due.told("(-2147483647-1)/-1", 4, Integer.MIN_VALUE);
        Due.told("(-2147483647-1)%-1", 4, 0);
        Due.told("(-9223372036854775807l-1)/-1", 5, Long.MIN_VALUE);
        Due.told("(-9223372036854775807l-1)%-1l", 5, 0);
        Due.told("9223372036854775807l*3", 5, Long.MAX_VALUE * 3);
        Due.told("2147483647*2147483647", 4, 1);
        Due.told("(char)65535*(char)65535", 4, 65535 * 65535);
        Due.told("-(char)1", 4, -1);
        Due.told("-(-2147483647-1)", 4, Integer.MIN_VALUE);
        Due.told("(byte)200", 1, -56);
        Due.told("(short)40000", 2, -25536);
        Due.told("(char)70000", 3, 4464);
        Due.told("(int)4294967297l", 4, 1);
        Due.jams("1/0", 1);
        Due.jams("1%(2-2)", 1);
        Due.jams("1l/(byte)0", 1);
    }

    private static void reals() {
        Due.told("0.1+0.2", 0.1 + 0.2);
        Due.told("1.0/3", 1.0 / 3);
        Due.told("1f/3", 1f / 3);
        Due.told("5.5%2", 1.5);
        Due.told("-5.5%2", -1.5);
        Due.told("5.5%-2.0", 1.5);
        Due.told("-4.0%2", -0.0);
        Due.told("1p1000%3", Math.scalb(1.0, 1000) % 3);
        Due.told("0.0*-1", -0.0);
        Due.told("0.0-0.0", 0.0);
        Due.told("-0.0-0.0", -0.0);
        Due.told("(int)1p40", 4, Integer.MAX_VALUE);
        Due.told("(int)-1p40", 4, Integer.MIN_VALUE);
        Due.told("(long)1p70", 5, Long.MAX_VALUE);
        Due.told("(long)-1p70", 5, Long.MIN_VALUE);
        Due.told("(int)-2.9", 4, -2);
        Due.told("(byte)300.7", 1, 44);
        Due.told("(byte)1p40", 1, -1);
        Due.told("(char)-1.5", 3, 65535);
        Due.told("(short)-1p40", 2, 0);
        Due.told("(float)0.1", 0.1f);
        Due.told("(double)0.1f", (double) 0.1f);
        Due.told("(float)9007199791611905l", 9007199791611905L);
        Due.told("(float)16777217", 16777216f);
        Due.told("(double)9223372036854775807l", 9.223372036854775807e18);
        Due.jams("1.0/0", 2);
        Due.jams("1/-0.0", 2);
        Due.jams("1f%0f", 2);
        Due.jams("0.0/0.0", 2);
        Due.jams("1p1023+1p1023", 3);
        Due.jams("1p127f*2", 3);
        Due.jams("(float)1p128", 3);
        Due.jams("1p1023/0.5", 3);
        Due.told("1p1023+(1p1023-1p971)+1p969", Double.MAX_VALUE);
        Due.jams("1p1023+(1p1023-1p971)+1p970", 3);
        Due.told("(float)(16777215p104+8388607p80)", Float.MAX_VALUE);
        Due.jams("(float)(33554431p103)", 3);
    }

    private static void functions() {
        Due.told("floor(-0.5)", -1.0);
        Due.told("ceil(-0.5)", -0.0);
        Due.told("rint(-0.5)", -0.0);
        Due.told("rint(0.5)", 0.0);
        Due.told("rint(1.5)", 2.0);
        Due.told("rint(2.5)", 2.0);
        Due.told("floor(-0.0)", -0.0);
        Due.told("ceil(0.1)", 1.0);
        Due.told("floor(7)", 7.0);
        Due.told("abs(-7)", 7.0);
        Due.told("abs(-0.0)", 0.0);
        Due.told("abs(-9223372036854775807l-1)", 9.223372036854775807e18);
        Due.told("least(0.0,-0.0)", -0.0);
        Due.told("most(-0.0,0.0)", 0.0);
        Due.told("least(0f,-0f)", -0.0f);
        Due.told("least(3,2l)", 5, 2);
        Due.told("most(-3,2)", 4, 2);
        Due.told("most(1,2f)", 2f);
        Due.told("gcd(12,-18)", 6.0);
        Due.told("gcd(0,0)", 0.0);
        Due.told("gcd(0.5,0.75)", 0.25);
        Due.told("0.0==-0.0", 0, 1);
        Due.told("1==1.0", 0, 1);
        Due.told("true!=false", 0, 1);
    }

    private static void working() {
        Due.told("false&&1/0==0", 0, 0);
        Due.told("true||1/0==0", 0, 1);
        Due.jams("true&&1/0==0", 1);
        Due.jams("1/0==0||true", 1);
        Due.told("true?1:1/0", 4, 1);
        Due.told("false?1/0:2l", 5, 2);
        Due.told("true?1:2.5", 1.0);
        Due.told("true?1:2f", 1f);
        Due.told("true?(byte)1:(char)2", 4, 1);
        Due.told("false?1:true?2:3", 4, 2);
        Due.told("true?false?1:2:3", 4, 2);
        Due.told("1+2*3-4", 4, 3);
        Due.told("10-3-2", 4, 5);
        Due.told("100/10/5", 4, 2);
        Due.told("-2*3", 4, -6);
        Due.told("1<2==2>1", 0, 1);
        Due.told("true||false&&false", 0, 1);
        Due.told("(1+2)*3", 4, 9);
        Due.told("!true||true", 0, 1);
        Due.told("(int)2.9*2", 4, 4);
        Due.told("(int)(2.9*2)", 4, 5);
        Due.told("- - 5", 4, 5);
        Due.told("5--5", 4, 10);
        // The left part jams ahead of the right one.
        Due.jams("1/0+1.0/0", 1);
        Due.jams("1.0/0+1/0", 2);
    }

    private static void numbers() {
        Due.told("2147483647", 4, 2147483647);
        Due.told("0000000000000000002147483647", 4, 2147483647);
        Due.faulty("2147483648", 1, 0);
        Due.told("9223372036854775807l", 5, Long.MAX_VALUE);
        Due.faulty("9223372036854775808l", 1, 0);
        Due.faulty("99999999999999999999999l", 1, 0);
        Due.told("1.5", 1.5);
        Due.told("1p3", 8.0);
        Due.told("1.5p-1", 0.75);
        Due.told("3f", 3f);
        Due.told("0.1f", 0.1f);
        Due.told("123456789012345p0", 123456789012345.0);
        Due.faulty("1234567890123456p0", 1, 0);
        Due.faulty("0000000000000001p0", 1, 0);
        Due.faulty("12345678.90123456", 1, 0);
        Due.told("1p-1074", Double.MIN_VALUE);
        Due.told("1p-1100", 0.0);
        Due.told("3p-1075", Math.scalb(1.0, -1073));
        Due.faulty("1p1024", 1, 0);
        Due.faulty("1p1101", 1, 0);
        Due.faulty("0p-1101", 1, 0);
        Due.told("0p1100", 0.0);
        Due.told("0p0000001100", 0.0);
        Due.told("0.00001p1030", Math.scalb(0.00001, 1030));
        Due.faulty("1p128f", 1, 0);
        Due.told("1p127f", Math.scalb(1f, 127));
        Due.told("1p-150f", 0f);
        String[] none = {"1.", "1.p3", "1p", "1p-", "1p+3", "1.5l", "1p3l", "1fl", "1ff", "1e5", "1x", "1.5.5", "1l2",
            "1f.", "12abc", "1pp2", "1_0", "0x10", "1P3", "1L", "1F"};
        for (String n : none) {
            if (n.equals("1_0")) {
                Due.faulty(n, 1, 1);
            } else if (n.equals("1p+3")) {
                Due.faulty(n, 1, 0);
            } else {
                Due.faulty("  " + n, 1, 2);
            }
        }
        Due.faulty(".5", 1, 0);
        Due.faulty("2*1.", 1, 2);
    }

    private static void readingFaults() {
        Due.faulty("", 1, 0);
        Due.faulty("  ", 1, 2);
        Due.faulty("1+", 1, 2);
        Due.faulty("1+ ", 1, 3);
        Due.faulty("(1", 1, 2);
        Due.faulty("1)", 1, 1);
        Due.faulty("1 2", 1, 2);
        Due.faulty("1<2<3", 1, 3);
        Due.faulty("1==2!=3", 1, 4);
        Due.faulty("1<2<=3", 1, 3);
        Due.faulty("true?1", 1, 6);
        Due.faulty("true?1;", 1, 6);
        Due.faulty("1:2", 1, 1);
        Due.faulty("least(1)", 1, 7);
        Due.faulty("floor(1,2)", 1, 7);
        Due.faulty("least(1,2,3)", 1, 9);
        Due.faulty("floor 1", 1, 6);
        Due.faulty("old(1)", 1, 4);
        Due.faulty("old(a+1)", 1, 5);
        Due.faulty("old a", 1, 4);
        Due.faulty("(int 1", 1, 5);
        Due.faulty("(int)", 1, 5);
        Due.faulty("int", 1, 0);
        Due.faulty("1 & 2", 1, 2);
        Due.faulty("1 | 2", 1, 2);
        Due.faulty("a\u00e4", 1, 1);
        Due.faulty("1\r", 1, 1);
        Due.faulty("abcdefghijk", 1, 10);
        Due.faulty("1 abcdefghijklm", 1, 12);
        Due.faulty("abcdefghij", 3, 0);
        Due.faulty("a[1", 1, 3);
        Due.faulty("a[1)", 1, 3);
        Due.faulty("(1]", 1, 2);
        Due.faulty("then", 1, 0);
        Due.faulty("!", 1, 1);
        Due.faultyPlan("part", 1, 4);
        Due.faultyPlan("part a", 1, 6);
        Due.faultyPlan("part a:", 1, 7);
        Due.faultyPlan("part a:int", 1, 10);
        Due.faultyPlan("part a:int=1", 1, 12);
        Due.faultyPlan("part a:int=1;", 1, 12);
        Due.faultyPlan("part a:int=1 then", 1, 17);
        Due.faultyPlan("part a:int=1 then 2", 1, 19);
        Due.faultyPlan("show a:int=1 then 2;", 1, 13);
        Due.faultyPlan("show step:int=1;", 1, 5);
        Due.faultyPlan("show abcdefghijk:int=1;", 1, 15);
        Due.faultyPlan("show a:nt=1;", 1, 7);
        Due.faultyPlan("show a:int==1;", 1, 10);
        Due.faultyPlan("bell a:truth when true;", 1, 6);
        Due.faultyPlan("bell a when true", 1, 16);
        Due.faultyPlan("cam a=;", 1, 6);
        Due.faultyPlan("cam a=--1;", 1, 7);
        Due.faultyPlan("cam a=1,;", 1, 8);
        Due.faultyPlan("cam a=1+1;", 1, 7);
        Due.faultyPlan("cam a=true;", 1, 6);
        Due.faultyPlan("1", 1, 0);
        Due.faultyPlan("show a:int=1;;", 1, 13);
        // A fault of reading goes ahead of all others, wherever it stands.
        Due.faultyPlan("show a:int=nobody;show a:int=true;show", 1, 38);
    }

    private static void depths() {
        Due.told(Due.times("(", 40) + "1" + Due.times(")", 40), 4, 1);
        Due.faulty(Due.times("(", 41) + "1" + Due.times(")", 41), 1, 40);
        Due.told(Due.times("-", 40) + "1", 4, 1);
        Due.faulty(Due.times("-", 41) + "1", 1, 40);
        Due.told(Due.times("!", 40) + "true", 0, 1);
        Due.faulty(Due.times("!", 41) + "true", 1, 40);
        Due.told(Due.times("(int)", 40) + "1", 4, 1);
        Due.faulty(Due.times("(int)", 40) + "(1)", 1, 200);
        Due.faulty(Due.times("(int)", 41) + "1", 1, 200);
        Due.told(Due.times("abs(", 40) + "1" + Due.times(")", 40), 1.0);
        Due.faulty(Due.times("abs(", 41) + "1", 1, 163);
        Due.told(Due.times("true?", 40) + "1" + Due.times(":2", 40), 4, 1);
        Due.faulty(Due.times("true?", 41) + "1" + Due.times(":2", 41), 1, 204);
        Due.told(Due.times("false?2:", 40) + "1", 4, 1);
        Due.faulty(Due.times("false?2:", 41) + "1", 1, 325);
        // What is ahead of a part reaches no farther than that part.
        Due.told(Due.times("-1+", 60) + "60", 4, 0);
        Due.told(Due.times("(int)1+", 60) + "0", 4, 60);
        Due.told(Due.times("(1)+", 60) + "0", 4, 60);
        Due.told(Due.times("-", 39) + "(1)", 4, -1);
        Due.faulty(Due.times("-", 40) + "(1)", 1, 40);
        Due.faulty(Due.times("-", 40) + "old(a)", 1, 43);
        Due.faulty(Due.times("-", 40) + "a[0]", 1, 41);
        Due.faulty(Due.times("-", 39) + "old(a)", 3, 43);
        Due.told(Due.times("-", 40) + "1-1", 4, 0);
    }

    private static void tooMuch() {
        StringBuilder things = new StringBuilder();
        for (int k = 0; k < 40; k++) {
            things.append("show a").append(k).append(":int=1;");
        }
        TurningHall hall = new TurningHall();
        Due.due("40 things", Due.plan(hall, things.toString()), 40);
        Due.faultyPlan(things + "part b:int=1 then 1;", 2, things.length() + 5);
        Due.faultyPlan(things + "part b:int=1 then 1", 1, things.length() + 19);
        StringBuilder bells = new StringBuilder();
        for (int k = 0; k < 12; k++) {
            bells.append("bell b").append(k).append(" when true;");
        }
        Due.due("12 bells", Due.plan(hall, bells.toString()), 0);
        Due.due("12 bells", hall.count(1), 12);
        Due.faultyPlan(bells + "bell x when true;", 2, bells.length() + 5);
        StringBuilder cams = new StringBuilder();
        for (int k = 0; k < 8; k++) {
            cams.append("cam c").append(k).append("=1;");
        }
        Due.due("8 cams", Due.plan(hall, cams.toString()), 0);
        Due.due("8 cams", hall.count(2), 8);
        Due.faultyPlan(cams + "cam x=1;", 2, cams.length() + 4);
        String teeth = "cam c=1" + Due.times(",1", 23);
        Due.due("24 teeth", Due.plan(hall, teeth + ";"), 0);
        Due.told(hall, "c[23]", 7, Due.bits(1));
        Due.due("the 25th", Due.ask(hall, "c[24]"), 12);
        Due.faultyPlan(teeth + ",-1;", 2, teeth.length() + 2);
        Due.told("-1" + Due.times("+1", 249), 4, 248);
        Due.faulty("-1" + Due.times("+1", 249) + "+1", 2, 500);
        Due.faulty("1" + Due.times("+1", 249) + "+1", 2, 500);
        Due.faulty("-1" + Due.times("+1", 249) + "+(int)1", 2, 500);
        Due.faulty("1" + Due.times("+1", 249) + "+(int)1", 2, 500);
        Due.told("1" + Due.times("+1", 249), 4, 250);
        Due.faulty("-1" + Due.times("+1", 249) + "+", 1, 501);
        // Of two plans' formulas all nodes count together; a cam's numbers are none.
        String half = "show a:int=1" + Due.times("+1", 124) + ";";
        String other = "show b:int=-1" + Due.times("+1", 124) + ";";
        Due.due("499", Due.plan(hall, half + other), 2);
        Due.due("499", hall.count(3), 499);
        Due.due("500", Due.plan(hall, half + other + "bell c when true;cam d=1,1,1;"), 2);
        Due.faultyPlan(half + other + "bell c when true;bell d when true;", 2,
            (half + other + "bell c when true;bell d when ").length());
    }

    /** Tapes that are full to the last byte, of tokens as short as can be. */
    private static void fullTapes() {
        Due.faulty("-1" + Due.times("+1", 1499), 2, 500);
        Due.faulty(Due.times("1+", 1500), 1, 3000);
        Due.faulty("1" + Due.times("+1", 1499) + ")", 1, 2999);
        Due.faulty(Due.times("true?1:", 428) + "true", 1, 7 * 40 + 4);
        Due.faulty("true" + Due.times("&&true", 499), 2, 4 + 249 * 6 + 2);
        Due.faultyPlan(Due.times("show a:int=1;", 230), 2, 40 * 13 + 5);
        Due.faultyPlan(Due.times("part a:int=1 then 1;", 150), 2, 40 * 20 + 5);
        Due.faultyPlan(Due.times("bell a when 1<1;", 187), 2, 12 * 16 + 5);
        Due.faultyPlan(Due.times("cam a=1;", 375), 2, 8 * 8 + 4);
        Due.faultyPlan("cam a=1" + Due.times(",1", 1496) + ";", 2, 6 + 2 * 24);
        Due.faultyPlan("cam a=1" + Due.times(",1", 1496), 1, 2999);
        // As much stands open at once as can.
        String open = Due.times("1||1&&1==1<1+1*(", 40);
        Due.faulty(open + "1" + Due.times(")", 40), 4, open.lastIndexOf("=="));
        Due.faulty(open + "-1", 1, open.length());
        // As many choices as 500 nodes can make.
        String choices = Due.times("false?2:", 40) + "3";
        TurningHall chosen = Due.planned("show a:int=" + choices + ";show b:int=" + choices + ";show c:int=" + choices
            + ";show d:int=" + choices + ";bell e when false?true:a==3;bell f when true||true&&true==false;");
        Due.due("nodes", chosen.count(3), 4 * 121 + 6 + 7);
        chosen.tick(2);
        for (int i = 0; i < 4; i++) {
            Due.due("chosen", chosen.value(i, 0), 3);
        }
        Due.due("rang", chosen.count(5), 4);
        TurningHall hall = new TurningHall();
        Due.type(hall, Due.times(" ", 3000));
        Due.due("3000 blanks", hall.plan(), 0);
    }

    private static void names() {
        Due.faultyPlan("show a:int=a;", 3, 11);
        Due.faultyPlan("part a:int=old(a) then 1;", 3, 15);
        Due.faultyPlan("show a:int=b;show b:int=1;", 3, 11);
        Due.planned("part a:int=1 then b;show b:int=1;");
        Due.planned("part a:int=1 then a;");
        Due.planned("bell x when a==1;show a:int=1;");
        Due.planned("part a:double=1 then c[0];cam c=1;");
        Due.faultyPlan("show a:double=c[0];cam c=1;", 3, 14);
        Due.planned("cam c=1;show a:double=c[0];");
        Due.faultyPlan("cam c=1;show a:double=c;", 3, 22);
        Due.faultyPlan("show b:int=1;show a:double=b[0];", 3, 27);
        Due.faultyPlan("bell b when true;show a:truth=b;", 3, 30);
        Due.faultyPlan("show a:int=1;cam a=1;", 3, 17);
        Due.faultyPlan("bell a when true;bell a when true;", 3, 22);
        Due.faultyPlan("show a:int=1;show aa:int=1;show a:int=x;", 3, 32);
        Due.faultyPlan("show a:int=x;show a:int=1;", 3, 11);
        Due.faultyPlan("part a:int=1 then x+y;part z:int=q then 1;", 3, 18);
        // Names that begin alike are others.
        Due.faultyPlan("show ab:int=1;show b:int=a;", 3, 25);
        Due.faultyPlan("show a:int=1;show b:int=ab;", 3, 24);
        Due.faultyPlan("show a:int=1;show b:int=A;", 3, 24);
        Due.faultyPlan("show a:truth=1+x==nobody;", 3, 15);
        // A fault of names goes ahead of one of sorts.
        Due.faultyPlan("show a:int=true;show b:int=x;", 3, 27);
    }

    private static void sorts() {
        Due.faulty("1+true", 4, 1);
        Due.faulty("true<false", 4, 4);
        Due.faulty("1==true", 4, 1);
        Due.faulty("1&&true", 4, 1);
        Due.faulty("!1", 4, 0);
        Due.faulty("-true", 4, 0);
        Due.faulty("1+(int)true", 4, 2);
        Due.faulty("(truth)1", 4, 0);
        Due.told("(truth)true", 0, 1);
        Due.faulty("floor(true)", 4, 0);
        Due.faulty("1+gcd(1,true)", 4, 2);
        Due.faulty("least(true,false)", 4, 0);
        Due.faulty("1?2:3", 4, 1);
        Due.faulty("true?1:false", 4, 4);
        Due.told("true?true:false", 0, 1);
        // Parts ahead of their sign, from the left: not as they stand in the text.
        Due.faulty("1&&(2+true)", 4, 5);
        Due.faulty("(true+1)&&(!2)", 4, 5);
        Due.faulty("1?true+1:!2", 4, 6);
        Due.faulty("true*(1<true)", 4, 7);
        TurningHall hall = Due.planned("cam c=1,2,3;part l:long=1 then l;part h:char=(char)1 then h;");
        Due.due("LONG index", Due.ask(hall, "c[l]"), -1 - 1);
        Due.due("kind", hall.fault(), 4);
        Due.due("real index", Due.ask(hall, "c [1.0]"), -1 - 2);
        Due.due("TRUTH index", Due.ask(hall, "c[true]"), -1 - 1);
        Due.told(hall, "c[h]", 7, Due.bits(2));
        Due.told(hall, "c[(byte)l]", 7, Due.bits(2));
        Due.told(hall, "c[(short)2]", 7, Due.bits(3));
        Due.due("below", Due.ask(hall, "c[-1]"), 12);
        String[] sorts = {"truth", "byte", "short", "char", "int", "long", "float", "double"};
        String[] comes = {"0", "1", "12", "3", "1234", "12345", "123456", "1234567"};
        for (int to = 0; to < 8; to++) {
            for (int from = 0; from < 8; from++) {
                String value = from == 0 ? "true" : "(" + sorts[from] + ")1";
                String first = "show a:" + sorts[to] + "=" + value + ";";
                String next = "part a:" + sorts[to] + "=" + (to == 0 ? "true" : "(" + sorts[to] + ")1") + " then " + value + ";";
                boolean fits = comes[to].indexOf('0' + from) >= 0;
                TurningHall fresh = new TurningHall();
                Due.due(first, Due.plan(fresh, first), fits ? 1 : -1 - first.indexOf('='));
                Due.due(next, Due.plan(fresh, next), fits ? 1 : -1 - next.indexOf("then"));
            }
        }
        Due.faultyPlan("bell b when 1;", 4, 7);
        Due.faultyPlan("part a:int=1 then true;show b:int=1+true;", 4, 13);
        Due.faultyPlan("bell b when 1;show a:int=true;", 4, 7);
        Due.faultyPlan("part a:int=true then 1+true;", 4, 10);
    }

    private static void cams() {
        TurningHall hall = Due.planned("cam c=1,-2,-0,0,1.5f,-2p3,9223372036854775807l,-0.0;");
        double[] due = {1, -2, -0.0, 0, 1.5, -16, 9.223372036854775807e18, -0.0};
        for (int k = 0; k < due.length; k++) {
            Due.told(hall, "c[" + k + "]", 7, Due.bits(due[k]));
        }
        Due.due("beyond", Due.ask(hall, "c[8]"), 12);
        Due.due("the greatest", Due.ask(hall, "c[2147483647]"), 12);
        Due.told(hall, "c[(int)c[0]]", 7, Due.bits(-2));
    }

    private static void olds() {
        TurningHall hall = Due.planned("part a:int=5 then a+1;show b:int=old(a)*100+a;part c:int=old(b) then old(c)+1;");
        Due.due("at first what it is", hall.value(1, 0), 505);
        Due.due("at first what it is", hall.value(2, 0), 505);
        hall.tick(1);
        Due.due("ahead of the tick", hall.value(1, 0), 506);
        Due.due("ahead of the tick", hall.value(2, 0), 506);
        hall.set(0, 50);
        Due.told(hall, "old(a)", 4, 50);
        hall.tick(1);
        Due.due("what was set", hall.value(1, 0), 5051);
    }

    public static void main(String[] args) {
        wholes();
        reals();
        functions();
        working();
        numbers();
        readingFaults();
        depths();
        tooMuch();
        fullTapes();
        names();
        sorts();
        cams();
        olds();
        Due.finish("TermsTest");
    }
}
