/** FAULTS at their boundaries: where each begins, how deep and how much is still none, which goes ahead of which. */
public final class FaultsBoundaryTest {
    private static final String PLAN = "part a:int=1 then a;cam c=1,2;";

    private static TurningHall hall() {
        return Due.planned(PLAN);
    }

    private static void good(String text) {
        TurningHall hall = hall();
        Due.due("sort of " + text, Due.ask(hall, text) >= 0, true);
        Due.due("no fault of " + text, hall.fault(), 0);
    }

    private static void faulty(String text, int kind, int place) {
        TurningHall hall = hall();
        Due.due("place of the fault of " + text, Due.ask(hall, text), -1 - place);
        Due.due("kind of the fault of " + text, hall.fault(), kind);
    }

    private static void goodPlan(String text, int things) {
        TurningHall hall = new TurningHall();
        Due.due("things of " + text, Due.plan(hall, text), things);
        Due.due("no fault of " + text, hall.fault(), 0);
    }

    /** Every beginning of a text that ends too early: the place is its length, unless its last token is not whole. */
    private static void lengths() {
        Due.sentence("1 READING: the first token with which no PLAN (E) goes on (the text's length, if more must come)");
        String[] tokens = {"part ", "a", ":", "int", "=", "least", "(", "1", ",", "-", "2", ")", " then ", "c", "[", "a", "]", "<",
            "old", "(", "a", ")", "?", "1", ":", "(", "int", ")", "2.5", ";", "cam ", "c", "=", "-", "1", ",", "2", ";", "bell ",
            "b", " when ", "true", "&&", "!", "false", ";"};
        StringBuilder text = new StringBuilder();
        for (String token : tokens) {
            text.append(token);
            if (!token.equals(";")) {
                Due.faultyPlan(text.toString(), 1, text.length());
                Due.faultyPlan(text + " \n", 1, text.length() + 2);
            }
        }
        goodPlan(text.toString(), 1);
        goodPlan("", 0);
        goodPlan(" ", 0);
        Due.faulty("", 1, 0);
        Due.faulty(" ", 1, 1);
        Due.faulty(Due.times(" ", 3000), 1, 3000);
        Due.faulty("1+" + Due.times(" ", 2998), 1, 3000);
        goodPlan(Due.times(" ", 3000), 0);
        String[] more = {"-", "!", "(", "(1", "(int", "(int)", "floor", "floor(", "floor(1", "least(1", "least(1,", "least(1,2", "old",
            "old(", "old(a", "c[", "c[0", "1+", "1<", "1==", "true&&", "true||", "true?", "true?1", "true?1:", "1?2:3+"};
        for (String beginning : more) {
            faulty(beginning, 1, beginning.length());
            faulty(beginning + " ", 1, beginning.length() + 1);
        }
    }

    private static void firstTokens() {
        Due.sentence("1 READING: .. at its first byte");
        faulty(" 1  2", 1, 4);
        faulty("1 then", 1, 2);
        faulty("1;", 1, 1);
        faulty("1 )", 1, 2);
        faulty("( 1 ]", 1, 4);
        faulty("c [ 0 )", 1, 6);
        faulty("least(1;2)", 1, 7);
        faulty("least(1)", 1, 7);
        faulty("most(1)", 1, 6);
        faulty("gcd(1)", 1, 5);
        faulty("least(1,2,3)", 1, 9);
        faulty("abs(1,2)", 1, 5);
        faulty("(1,2)", 1, 2);
        faulty("c[0,1]", 1, 3);
        faulty("floor()", 1, 6);
        faulty("old()", 1, 4);
        faulty("old((a))", 1, 4);
        faulty("old(a[0])", 1, 5);
        faulty("()", 1, 1);
        faulty("c[]", 1, 2);
        faulty("(int)", 1, 5);
        faulty("(int)*1", 1, 5);
        faulty("(int int)1", 1, 5);
        faulty("int(1)", 1, 0);
        faulty("(a)1", 1, 3);
        faulty("a(1)", 1, 1);
        faulty("a b", 1, 2);
        faulty("1[0]", 1, 1);
        faulty("(a)[0]", 1, 3);
        faulty("c[0][0]", 1, 4);
        faulty("ticks[0]", 1, 5);
        faulty("true?1;2", 1, 6);
        faulty("1:2", 1, 1);
        faulty("true?1:2:3", 1, 8);
        faulty("(true?1)", 1, 7);
        faulty("least(true?1,2)", 1, 12);
        faulty("c[true?1]", 1, 8);
        faulty("+1", 1, 0);
        faulty("*", 1, 0);
        faulty("1+*2", 1, 2);
        faulty("1+!", 1, 3);
        faulty("part", 1, 0);
        Due.sentence("Q: R [ '==' R | '!=' R ]. R: S [ '<' S | '<=' S | '>' S | '>=' S ]");
        for (String first : new String[] {"<", "<=", ">", ">="}) {
            for (String second : new String[] {"<", "<=", ">", ">="}) {
                faulty("1" + first + "2" + second + "3", 1, first.length() + 2);
                good("1" + first + "2==(2" + second + "3)");
            }
            good("1" + first + "2==2" + first + "3");
            good("true!=1" + first + "2");
            faulty("1" + first + "2==2" + first + "3" + first + "4", 1, 2 * first.length() + 6);
        }
        faulty("true==true==true", 1, 10);
        faulty("true==true!=true", 1, 10);
        faulty("true!=1<2==true", 1, 9);
        good("(true==true)!=true");
        good("true==true&&true==true||true!=true");
        Due.faultyPlan("show a:int=1 then 1;", 1, 13);
        Due.faultyPlan("part a:int=1;", 1, 12);
        Due.faultyPlan("part a=1 then 1;", 1, 6);
        Due.faultyPlan("part a:int:=1 then 1;", 1, 10);
        Due.faultyPlan("part a:int 1 then 1;", 1, 11);
        Due.faultyPlan("part a:a=1 then 1;", 1, 7);
        Due.faultyPlan("part:int=1 then 1;", 1, 4);
        Due.faultyPlan("part 1:int=1 then 1;", 1, 5);
        Due.faultyPlan("cam a=1", 1, 7);
        Due.faultyPlan("cam a=1 2;", 1, 8);
        Due.faultyPlan("cam a=(1);", 1, 6);
        Due.faultyPlan("cam a=+1;", 1, 6);
        Due.faultyPlan("cam a=1,,2;", 1, 8);
        Due.faultyPlan("cam a=- -1;", 1, 8);
        Due.faultyPlan("cam a=!1;", 1, 6);
        Due.faultyPlan("cam a:double=1;", 1, 5);
        Due.faultyPlan("cam a 1;", 1, 6);
        Due.faultyPlan("bell a=true;", 1, 6);
        Due.faultyPlan("bell a true;", 1, 7);
        Due.faultyPlan("bell when true;", 1, 5);
        Due.faultyPlan(";", 1, 0);
        Due.faultyPlan("show a:int=1;;", 1, 13);
        Due.faultyPlan("1+1", 1, 0);
    }

    private static void depths() {
        Due.sentence("any (, [, ?, - or ! ahead within 40 others of these");
        String[] openers = {"(", "-", "(int)", "abs(", "least(1,", "c[", "true?1:", "true?"};
        String[] closers = {")", "", "", ")", ")", "]", "", ":1"};
        int[] signs = {0, 0, 0, 3, 5, 1, 4, 4};
        for (int k = 0; k < openers.length; k++) {
            String opener = openers[k];
            String closer = closers[k];
            boolean index = opener.equals("c[");
            // An index is no DOUBLE: a fault of sorts is none of reading.
            TurningHall hall = hall();
            int got = Due.ask(hall, Due.times(opener, 40) + "1" + Due.times(closer, 40));
            Due.due("40 of " + opener, hall.fault(), index ? 4 : 0);
            Due.due("40 of " + opener, got >= 0, !index);
            faulty(Due.times(opener, 41) + "1" + Due.times(closer, 41), 1, 40 * opener.length() + signs[k]);
            good(Due.times("(", 39) + opener + "1" + closer + Due.times(")", 39));
            faulty(Due.times("(", 40) + opener + "1" + closer + Due.times(")", 40), 1, 40 + signs[k]);
            faulty(Due.times("(", 39) + opener + "-1" + closer + Due.times(")", 39), 1, 39 + opener.length());
            faulty(Due.times("(", 39) + opener + "(1)" + closer + Due.times(")", 39), 1, 39 + opener.length());
        }
        good(Due.times("(", 39) + "old(a)" + Due.times(")", 39));
        faulty(Due.times("(", 40) + "old(a)" + Due.times(")", 40), 1, 43);
        good(Due.times("!", 40) + "true");
        faulty(Due.times("!", 41) + "true", 1, 40);
        good(Due.times("(", 39) + "!true" + Due.times(")", 39));
        faulty(Due.times("(", 40) + "!true" + Due.times(")", 40), 1, 40);
        Due.faultyPlan("show a:int=" + Due.times("(", 41) + "1;", 1, 51);
        Due.faultyPlan("part a:int=1 then " + Due.times("-", 41) + "1;", 1, 58);
        Due.faultyPlan("bell a when " + Due.times("!", 41) + "true;", 1, 52);
        goodPlan("part a:int=" + Due.times("-", 40) + "1 then " + Due.times("-", 40) + "1;bell b when "
            + Due.times("!", 40) + "true;", 1);
        reaches();
    }

    private static void reaches() {
        Due.sentence("each reaches to the end of what it brackets or is ahead of, a cast's ( to the end of its U, ? to the end of its last E");
        String open = Due.times("(", 39);
        String shut = Due.times(")", 39);
        String[] twice = {"(1)+(1)", "-1+-1", "-1*-1--1", "(int)1+(int)1*(int)1", "abs(1)-abs(1)", "old(a)%old(a)", "c[0]/c[1]",
            "least(1,2)+least(1,2)", "-1<0?1:2", "(true)?1:2", "c[0]<1?1:2", "!true||!true&&!true", "-1==-1&&-1!=-1"};
        for (String text : twice) {
            good(open + text + shut);
        }
        faulty(open + "-c[0]" + shut, 1, 39 + 2);
        faulty(open + "-abs(1)" + shut, 1, 39 + 4);
        faulty(open + "(int)abs(1)" + shut, 1, 39 + 8);
        faulty(open + "(int)-1" + shut, 1, 39 + 5);
        faulty(open + "(int)(int)1" + shut, 1, 39 + 5);
        good(open + "(int)1-1" + shut);
        good(open + "(int)1<1?1:2" + shut);
        faulty(open + "true?-1:2" + shut, 1, 39 + 5);
        faulty(open + "true?1:-2" + shut, 1, 39 + 7);
        faulty(open + "true?1:2<3?4:5" + shut, 1, 39 + 10);
        faulty(open + "true?1:2+(3)" + shut, 1, 39 + 9);
        faulty(open + "least(1,-1)" + shut, 1, 39 + 8);
        // Behind its last E a ? reaches no farther.
        String outer = Due.times("(", 38);
        String close = Due.times(")", 38);
        good(outer + "(true?1:2)+(true?1:2)" + close);
        good(outer + "(true?1:2)<(1)?1:2" + close);
        good(outer + "least(true?1:2,true?1:2)" + close);
        good(outer + "c[true?1:0]+c[true?0:1]" + close);
        faulty(outer + "least(true?1:2,true?1:-2)" + close, 1, 38 + 22);
        good(outer + "-(1)*-(1)" + close);
        good(outer + "-(int)1*(int)-1" + close);
        good(outer + "true?true?1:2:3" + close);
        faulty(outer + "true?true?1:2:(-3)" + close, 1, 38 + 15);
        good(outer + "true?(1):3" + close);
        good(Due.times("-1+", 124) + "1");
        good(Due.times("(1)+", 200) + "1");
        good(Due.times("(true?1:2)+", 99) + "1");
    }

    private static String shows(int n) {
        StringBuilder text = new StringBuilder();
        for (int k = 0; k < n; k++) {
            text.append(k % 2 == 0 ? "show s" + k + ":int=1;" : "part s" + k + ":int=1 then 1;");
        }
        return text.toString();
    }

    private static String bells(int n) {
        StringBuilder text = new StringBuilder();
        for (int k = 0; k < n; k++) {
            text.append("bell b").append(k).append(" when true;");
        }
        return text.toString();
    }

    private static String cams(int n) {
        StringBuilder text = new StringBuilder();
        for (int k = 0; k < n; k++) {
            text.append("cam c").append(k).append("=1;");
        }
        return text.toString();
    }

    private static void tooMany() {
        Due.sentence("2 TOO MUCH, at the token: the NAME of the 41st thing, 13th bell, 9th cam");
        goodPlan(shows(39), 39);
        goodPlan(shows(40), 40);
        Due.faultyPlan(shows(41), 2, shows(40).length() + 5);
        Due.faultyPlan(shows(40) + "part z:int=1 then 1;", 2, shows(40).length() + 5);
        Due.faultyPlan(shows(44), 2, shows(40).length() + 5);
        goodPlan(bells(12), 0);
        Due.faultyPlan(bells(13), 2, bells(12).length() + 5);
        goodPlan(cams(8), 0);
        Due.faultyPlan(cams(9), 2, cams(8).length() + 4);
        String full = shows(40) + bells(12) + cams(8);
        goodPlan(full, 40);
        Due.faultyPlan(full + "cam  x=1;", 2, full.length() + 5);
        Due.faultyPlan(full + "bell  x when true;", 2, full.length() + 6);
        Due.faultyPlan(full + "show  x:int=1;", 2, full.length() + 6);
        TurningHall hall = Due.planned(full);
        Due.due("things", hall.count(0), 40);
        Due.due("bells", hall.count(1), 12);
        Due.due("cams", hall.count(2), 8);
        Due.due("the last thing", hall.letter(39, 2), '9');
        Due.due("the last bell", hall.letter(111, 2), '1');
        Due.due("the last cam", hall.letter(207, 1), '7');
        Due.sentence("2 TOO MUCH, at the token: .. a cam's 25th NUMBER");
        String teeth = "cam c=0" + Due.times(",1", 22);
        goodPlan(teeth + ";", 0);
        goodPlan(teeth + ",-2;", 0);
        Due.faultyPlan(teeth + ",2,3;", 2, teeth.length() + 3);
        Due.faultyPlan(teeth + ",2, - 3,4;", 2, teeth.length() + 6);
        Due.faultyPlan("cam d=1;" + teeth + ",2,3;", 2, teeth.length() + 11);
        TurningHall cam = Due.planned(teeth + ",-2;cam d=5;");
        Due.told(cam, "c[23]", 7, Due.bits(-2));
        Due.due("the 25th", Due.ask(cam, "c[24]"), 12);
        Due.told(cam, "d[0]", 7, Due.bits(5));
    }

    /** 498 nodes, a + with what it is ahead of, and something behind: which node is the 501st, and where. */
    private static void nodes() {
        Due.sentence("2 TOO MUCH: .. the 501st NODE, in the order of their tokens: each sign of two parts, - and ! ahead, ?, cast ..");
        String even = "-1" + Due.times("+1", 248);
        String odd = "1" + Due.times("+1", 249);
        String[] leaves = {"1", "2.5", "ticks", "step", "a", "old(a)"};
        for (String leaf : leaves) {
            good(even + "+" + leaf);
            faulty(odd + "+" + leaf, 2, odd.length() + 1);
        }
        String[] pairs = {"-1", "(int)1", "abs(1)", "c[0]", "floor(1)", "ceil(a)", "rint(1)"};
        int[] inner = {1, 5, 4, 2, 6, 5, 5};
        for (int k = 0; k < pairs.length; k++) {
            good("1" + Due.times("+1", 248) + "+" + pairs[k]);
            faulty(even + "+" + pairs[k], 2, even.length() + 1 + inner[k]);
            faulty(odd + "+" + pairs[k], 2, odd.length() + 1);
        }
        for (String word : new String[] {"least", "most", "gcd"}) {
            good("-1" + Due.times("+1", 247) + "+" + word + "(1,2)");
            faulty("1" + Due.times("+1", 248) + "+" + word + "(1,2)", 2, 497 + 1 + word.length() + 3);
        }
        for (String sign : new String[] {"+", "-", "*", "/", "%", "<", "==", "&&", "||"}) {
            faulty(even + "+1" + sign + "1", 2, even.length() + 2);
        }
        String truths = "true" + Due.times("&&true", 248);
        good(truths + "||!false");
        faulty(truths + "&&true||true", 2, truths.length() + 8);
        faulty("!" + truths + "&&true&&true", 2, truths.length() + 1 + 6);
        faulty(truths + "&&true&&!true", 2, truths.length() + 8);
        faulty(truths + "&&!!true", 2, truths.length() + 4);
        good("true?1:" + "1" + Due.times("+1", 248));
        good("!true?1:" + even.substring(0, even.length() - 2));
        faulty("true?1:" + odd, 2, 7 + 2 * 248 + 1);
        faulty("true?1:" + "1" + Due.times("+1", 248) + "?1:2", 2, 7 + 497);
        faulty("!true?1:" + "1" + Due.times("+1", 248) + "?1:2", 2, 8 + 496);
        faulty(odd + "<" + "1?1:2", 2, odd.length() + 1);
        faulty(even + "<" + "1?1:2", 2, even.length() + 2);
        Due.sentence("2 TOO MUCH: .. the 501st NODE of all formulas (of an E that is asked: of it alone)");
        String half = "show a:int=1" + Due.times("+1", 124) + ";";
        String rest = "part b:int=1" + Due.times("+1", 62) + " then 1" + Due.times("+1", 61) + ";";
        TurningHall hall = new TurningHall();
        Due.due("497", Due.plan(hall, half + rest), 2);
        Due.due("497", hall.count(3), 249 + 125 + 123);
        Due.due("500", Due.plan(hall, half + rest + "bell c when 1<2;"), 2);
        Due.due("500", hall.count(3), 500);
        Due.told(hall, "-a+b" + Due.times("+1", 248), 4, -125 + 63 + 248);
        Due.due("501 asked", Due.ask(hall, "-a" + Due.times("+b", 250)), -1 - 500);
        Due.due("the plan's", hall.count(3), 500);
        Due.due("501", Due.plan(hall, half + rest + "bell c when !(1<2);"), -1 - (half + rest).length() - 16);
        Due.due("kind", hall.fault(), 2);
        Due.due("still the former", hall.count(3), 500);
        Due.due("a cam's numbers are none", Due.plan(hall, "cam c=1,-2,3;" + half + rest + "bell d when 1<2;"), 2);
    }

    private static void leastKind() {
        Due.sentence("FAULTS, the least kind that there is");
        Due.faultyPlan("show a:int=true;", 4, 10);
        Due.faultyPlan("show a:int=true;show b:int=x;", 3, 27);
        Due.faultyPlan("show a:int=x+true;", 3, 11);
        Due.faultyPlan("show a:int=true+x;" + cams(9), 2, 18 + cams(8).length() + 4);
        Due.faultyPlan("show a:int=true+x;" + cams(9) + "$", 1, 18 + cams(9).length());
        Due.faultyPlan("show a:int=true+x;" + cams(9) + "show", 1, 18 + cams(9).length() + 4);
        Due.faulty("x+true", 3, 0);
        Due.faulty("true+x", 3, 5);
        Due.faulty("true+x" + Due.times("+1", 249), 2, 6 + 2 * 248 + 1);
        Due.faulty("true+x" + Due.times("+1", 250) + "+", 1, 6 + 2 * 250 + 1);
        Due.sentence("of one kind (whatever breaks it) the first along the text");
        Due.faultyPlan("$ %", 1, 0);
        Due.faultyPlan(bells(13) + cams(9), 2, bells(12).length() + 5);
        Due.faultyPlan(cams(9) + bells(13), 2, cams(8).length() + 4);
        String many = "show z:int=1" + Due.times("+1", 250) + ";";
        Due.faultyPlan(many + cams(9), 2, 11 + 500);
        Due.faultyPlan(cams(9) + many, 2, cams(8).length() + 4);
        Due.faultyPlan("cam t=1" + Due.times(",1", 24) + ";" + many, 2, 6 + 48);
        Due.faultyPlan("show a:int=x;show a:int=y;", 3, 11);
        Due.faultyPlan("show a:int=1;show a:int=y;", 3, 18);
        Due.faultyPlan("part a:int=1 then x;show a:int=y;", 3, 18);
        Due.faultyPlan("bell a when x[0]<y;", 3, 12);
    }

    private static void names() {
        Due.sentence("3 NAMES: a NAME told for the second time (of things, cams, bells together), at it");
        String[] tellings = {"part N:int=1 then 1;", "show N:int=1;", "cam N=1;", "bell N when true;"};
        int[] at = {5, 5, 4, 5};
        for (String first : tellings) {
            for (int k = 0; k < tellings.length; k++) {
                Due.faultyPlan(first.replace("N", "ab") + tellings[k].replace("N", "ab"), 3, first.length() + 1 + at[k]);
                goodPlan(first.replace("N", "ab") + tellings[k].replace("N", "abc") + tellings[k].replace("N", "a")
                    + tellings[k].replace("N", "aB"), (first.indexOf(':') > 0 ? 1 : 0) + (k < 2 ? 3 : 0));
            }
        }
        Due.faultyPlan("show abcdefghij:int=1;show abcdefghij:int=1;", 3, 27);
        Due.sentence("a NAME in an E that is no thing (ahead of [ no cam) told ahead of this one");
        Due.faultyPlan("show a:int=a;", 3, 11);
        Due.faultyPlan("part a:int=a then 1;", 3, 11);
        Due.faultyPlan("part a:int=old(a) then 1;", 3, 15);
        goodPlan("show b:int=1;show a:int=b;", 2);
        goodPlan("part b:int=1 then 1;part a:int=old(b) then 1;", 2);
        Due.faultyPlan("show a:int=b;show b:int=1;", 3, 11);
        goodPlan("cam c=1;show a:double=c[0];", 1);
        Due.faultyPlan("show a:double=c[0];cam c=1;", 3, 14);
        Due.faultyPlan("cam c=1;show a:double=c;", 3, 22);
        Due.faultyPlan("cam c=1;show a:double=old(c);", 3, 26);
        Due.faultyPlan("show c:int=1;show a:double=c[0];", 3, 27);
        Due.faultyPlan("bell c when true;show a:truth=c;", 3, 30);
        Due.faultyPlan("bell c when true;show a:double=c[0];", 3, 31);
        Due.faultyPlan("bell c when c;", 3, 12);
        Due.sentence("but behind then and when, and of an E that is asked: anywhere in the plan");
        goodPlan("part a:int=1 then a;", 1);
        goodPlan("part a:int=1 then old(b);show b:int=1;", 2);
        goodPlan("part a:double=1 then c[0];cam c=1;", 1);
        goodPlan("bell b when a<c[0];cam c=1;show a:int=1;", 1);
        Due.faultyPlan("part a:int=1 then b;", 3, 18);
        Due.faultyPlan("part a:double=1 then a[0];cam c=1;", 3, 21);
        Due.faultyPlan("bell b when a;cam a=1;", 3, 12);
        TurningHall hall = Due.planned("cam c=1;show z:int=1;bell b when true;");
        Due.told(hall, "z+old(z)", 4, 2);
        Due.told(hall, "c[0]", 7, Due.bits(1));
        for (String text : new String[] {"c", "b", "y", "z[0]", "b[0]", "Z", "zz"}) {
            Due.due(text, Due.ask(hall, text), -1);
            Due.due(text, hall.fault(), 3);
        }
        Due.due("at the NAME", Due.ask(hall, "z + old( c )"), -1 - 9);
        // Of a plan that is not the latest any more no name is known.
        Due.due("another plan", Due.plan(hall, "show y:int=1;"), 1);
        Due.due("the former's name", Due.ask(hall, "z"), -1);
    }

    private static void sortOrder() {
        Due.sentence("4 SORTS: by the order in which a formula is worked out (.. parts ahead of their sign), at the sign");
        faulty("1&&(2+true)", 4, 5);
        faulty("(1+true)&&!2", 4, 2);
        faulty("!1&&-true", 4, 0);
        faulty("true&&1||-true", 4, 4);
        faulty("1+true*2", 4, 6);
        faulty("1+2*true", 4, 3);
        faulty("-true+true", 4, 0);
        faulty("true+-true", 4, 5);
        faulty("1?2:3", 4, 1);
        faulty("1?-true:!3", 4, 2);
        faulty("1?2:!3", 4, 4);
        faulty("true?1:true", 4, 4);
        faulty("least(true, 1+true)", 4, 13);
        faulty("least(true, 1)", 4, 0);
        faulty("1+ floor(true)", 4, 3);
        faulty(" (int)true", 4, 1);
        faulty("(int)!1", 4, 5);
        faulty("c [true+1]", 4, 7);
        faulty("c [true]", 4, 2);
        faulty("c[c[0]]", 4, 1);
        faulty("c[c[true]]", 4, 3);
        Due.sentence("formulas as they stand, that behind = ahead of that behind then; of a THING the = or then, of a BELL the when");
        Due.faultyPlan("part a:int=true then true;", 4, 10);
        Due.faultyPlan("part a:int=1 then true;", 4, 13);
        Due.faultyPlan("part a:int=1 then 1+true;", 4, 19);
        Due.faultyPlan("part a:int=true+1 then true;", 4, 15);
        Due.faultyPlan("part a:int=1.5 then 1+true;", 4, 10);
        Due.faultyPlan("bell b when 1;show a:int=true;", 4, 7);
        Due.faultyPlan("show a:int=true;bell b when 1;", 4, 10);
        Due.faultyPlan("bell b when !1;", 4, 12);
        Due.faultyPlan("show a:int=1;part t:truth=true then a;bell b when 1;", 4, 31);
    }

    public static void main(String[] args) {
        lengths();
        firstTokens();
        depths();
        tooMany();
        nodes();
        leastKind();
        names();
        sortOrder();
        Due.finish("FaultsBoundaryTest");
    }
}
