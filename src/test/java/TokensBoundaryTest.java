/** TEXTS at their boundaries: which bytes begin a token, where it ends, what is a NAME, a WORD, a NUMBER. */
public final class TokensBoundaryTest {
    private static final String[] WORDS = ("part show cam bell then when old step ticks floor ceil rint abs least most gcd "
        + "true false truth byte short char int long float double").split(" ");

    /** For each byte by itself: the place of the first fault, all of one byte. */
    private static void bytes() {
        Due.sentence("1 READING: .. a byte that begins no token");
        for (int c = 0; c < 256; c++) {
            String text = String.valueOf((char) c);
            TurningHall hall = new TurningHall();
            int got = Due.ask(hall, text);
            boolean blank = c == 9 || c == 10 || c == 32;
            boolean letter = c >= 'a' && c <= 'z' || c >= 'A' && c <= 'Z';
            boolean moreMustCome = blank || c == '-' || c == '!' || c == '(';
            if (c >= '0' && c <= '9') {
                Due.due("digit " + c, got, 4);
                Due.due("digit " + c, hall.told(), c - '0');
            } else {
                Due.due("place of byte " + c, got, moreMustCome ? -2 : -1);
                Due.due("kind of byte " + c, hall.fault(), letter ? 3 : 1);
            }
        }
        // The other signs begin tokens, with which an E goes on behind a number; all else does not.
        String going = "?+-*/%<>";
        for (int c = 0; c < 256; c++) {
            boolean blank = c == 9 || c == 10 || c == 32;
            boolean ofNumber = c >= '0' && c <= '9' || c >= 'a' && c <= 'z' || c >= 'A' && c <= 'Z' || c == '.';
            if (!blank && !ofNumber) {
                Due.faulty("1" + (char) c, 1, going.indexOf(c) >= 0 ? 2 : 1);
            }
        }
    }

    private static void blanks() {
        Due.sentence("between them BLANKS (9, 10, 32)");
        for (int c : new int[] {9, 10, 32}) {
            String b = String.valueOf((char) c);
            Due.told(b + "1" + b + "+" + b + b + "2" + b, 4, 3);
            Due.faulty("1" + b + "2", 1, 2);
            Due.faulty("<" + b + "=", 1, 0);
            Due.faulty("1<" + b + "=2", 1, 3);
            Due.faulty("1p" + b + "3", 1, 0);
            Due.faulty("t" + b + "rue", 1, 2);
        }
        for (int c : new int[] {0, 8, 11, 12, 13, 31, 127, 128, 160, 255}) {
            Due.faulty("1" + (char) c + "+2", 1, 1);
            Due.faulty(" " + (char) c, 1, 1);
        }
        // Where none are needed none must be.
        Due.planned("part a:int=(1)then(a);show b:int=a;bell c when(a)==1;");
        Due.faultyPlan("parta:int=1 then 1;", 1, 0);
        Due.faultyPlan("part a:int=1 thena;", 1, 13);
    }

    private static void longest() {
        Due.sentence("TOKENS, each as long as it can be");
        Due.told("1<=1", 0, 1);
        Due.told("1>=2", 0, 0);
        Due.told("1==1", 0, 1);
        Due.told("1!=1", 0, 0);
        Due.told("true&&true", 0, 1);
        Due.told("false||true", 0, 1);
        Due.told("1<-1", 0, 0);
        Due.told("1--1", 4, 2);
        Due.told("1---1", 4, 0);
        Due.told("!!true", 0, 1);
        Due.told("true!=!true", 0, 1);
        Due.faulty("1<==1", 1, 3);
        Due.faulty("1>==1", 1, 3);
        Due.faulty("1===1", 1, 3);
        Due.faulty("1!==1", 1, 3);
        Due.faulty("1= =1", 1, 1);
        Due.faulty("1! =1", 1, 1);
        Due.faulty("1=<1", 1, 1);
        Due.faulty("1=!1", 1, 1);
        Due.faulty("1<>1", 1, 2);
        Due.faulty("1<<1", 1, 2);
        Due.faulty("true&& &true", 1, 7);
        Due.faulty("true&&&true", 1, 6);
        Due.faulty("true|||true", 1, 6);
        Due.faulty("true& &true", 1, 4);
        Due.faulty("true| |true", 1, 4);
        Due.faulty("true&|true", 1, 4);
        Due.faulty("true&=true", 1, 4);
        Due.faulty("true&", 1, 4);
        Due.faulty("true|", 1, 4);
        Due.faulty("true1", 3, 0);
        Due.faulty("trueorfalse", 1, 10);
        Due.faulty("true?1:2:3", 1, 8);
    }

    private static void names() {
        Due.sentence("NAMES: a letter a .. z, A .. Z, then letters and digits, 10 at most");
        for (String name : new String[] {"a", "z", "A", "Z", "a0", "Z9", "aA1bB2cC3", "abcdefghij", "A123456789"}) {
            TurningHall hall = new TurningHall();
            Due.due(name, Due.plan(hall, "show " + name + ":int=3;"), 1);
            Due.due(name, hall.thing(0, 2), name.length());
            for (int k = 0; k < name.length(); k++) {
                Due.due(name + " " + k, hall.letter(0, k), name.charAt(k));
            }
            Due.due(name, hall.letter(0, name.length()), -1);
            Due.told(hall, name, 4, 3);
        }
        for (char c : "@[`{/:_$.".toCharArray()) {
            Due.faultyPlan("show " + c + ":int=3;", 1, 5);
            Due.faultyPlan("show a" + c + ";", 1, c == ':' ? 7 : 6);
        }
        Due.faultyPlan("show 1a:int=3;", 1, 5);
        Due.faultyPlan("show 1:int=3;", 1, 5);
        // Names are others if one byte is, or if one goes on.
        TurningHall hall = Due.planned("show a:int=1;show A:int=2;show aa:int=3;show a1:int=4;show abcdefghij:int=5;"
            + "show abcdefghiJ:int=6;show abcdefghi:int=7;");
        Due.told(hall, "a*1000000+A*100000+aa*10000+a1*1000", 4, 1234000);
        Due.told(hall, "abcdefghij*100+abcdefghiJ*10+abcdefghi", 4, 567);
        Due.sentence("the 11th byte of letters and digits that are no WORD (also where no NAME could stand)");
        Due.faulty("abcdefghij", 3, 0);
        Due.faulty("abcdefghijk", 1, 10);
        Due.faulty("abcdefghi12", 1, 10);
        Due.faulty(Due.times("a", 3000), 1, 10);
        Due.faulty("1 abcdefghij", 1, 2);
        Due.faulty("1 abcdefghijk", 1, 12);
        Due.faulty("old(abcdefghijk)", 1, 14);
        Due.faulty("1+abcdefghijk[0]", 1, 12);
        Due.faultyPlan("abcdefghij", 1, 0);
        Due.faultyPlan("abcdefghijk", 1, 10);
        Due.faultyPlan("show abcdefghij:int=1", 1, 21);
        Due.faultyPlan("show abcdefghijk:int=1", 1, 15);
        Due.faultyPlan("bell abcdefghijk when true;", 1, 15);
        Due.faultyPlan("cam abcdefghijk=1;", 1, 14);
        Due.faultyPlan("cam a=abcdefghijk;", 1, 16);
        Due.faultyPlan("show a abcdefghijk", 1, 17);
        Due.faultyPlan("show a:doubledouble=1;", 1, 17);
        Due.faultyPlan("show a:int=1;partpartpart", 1, 23);
    }

    private static void words() {
        Due.sentence("NAMES .. that are no WORDS; WORDS: part show cam bell then when old step ticks ..");
        for (String word : WORDS) {
            Due.faultyPlan("show " + word + ":int=1;", 1, 5);
            Due.faultyPlan("bell " + word + " when true;", 1, 5);
            Due.faultyPlan("cam " + word + "=1;", 1, 4);
            Due.faulty("old(" + word + ")", 1, 4);
            String shorter = word.substring(0, word.length() - 1);
            String other = Character.toUpperCase(word.charAt(0)) + word.substring(1);
            for (String name : new String[] {word + "s", word + "0", "x" + word, shorter, other, word.toUpperCase()}) {
                TurningHall hall = new TurningHall();
                Due.due(name, Due.plan(hall, "show " + name + ":int=5;"), 1);
                Due.told(hall, name + "*old(" + name + ")", 4, 25);
            }
        }
        String[] sorts = {"truth", "byte", "short", "char", "int", "long", "float", "double"};
        for (int k = 0; k < 8; k++) {
            Due.told("(" + sorts[k] + ")" + (k == 0 ? "true" : "1"), k, k == 6 ? 0x3F800000L : k == 7 ? Due.bits(1) : 1);
            Due.faulty("(" + sorts[k].substring(1) + ")1", 1, sorts[k].length() + 1);
        }
    }

    private static void wholeNumbers() {
        Due.sentence("Without ., p, l, f it is an INT (2147483647 at most)");
        Due.told("0", 4, 0);
        Due.told("2147483646", 4, 2147483646);
        Due.told("2147483647", 4, 2147483647);
        Due.faulty("2147483648", 1, 0);
        Due.faulty("2147483650", 1, 0);
        Due.faulty("2147483657", 1, 0);
        Due.faulty("3000000000", 1, 0);
        Due.faulty("4294967296", 1, 0);
        Due.faulty("4294967297", 1, 0);
        Due.faulty("-2147483648", 1, 1);
        Due.faulty("18446744073709551617", 1, 0);
        Due.faulty("340282366920938463463374607431768211457", 1, 0);
        Due.told(Due.times("0", 40), 4, 0);
        Due.told(Due.times("0", 40) + "2147483647", 4, 2147483647);
        Due.faulty(Due.times("0", 40) + "2147483648", 1, 0);
        Due.told(Due.times("0", 2999) + "7", 4, 7);
        Due.faulty(Due.times("9", 3000), 1, 0);
        Due.sentence("with l a LONG (9223372036854775807 at most; with . or p besides it is no token)");
        Due.told("0l", 5, 0);
        Due.told("2147483648l", 5, 2147483648L);
        Due.told("9223372036854775806l", 5, Long.MAX_VALUE - 1);
        Due.told("9223372036854775807l", 5, Long.MAX_VALUE);
        Due.faulty("9223372036854775808l", 1, 0);
        Due.faulty("9223372036854775810l", 1, 0);
        Due.faulty("10000000000000000000l", 1, 0);
        Due.faulty("18446744073709551616l", 1, 0);
        Due.faulty("18446744073709551617l", 1, 0);
        Due.faulty("-9223372036854775808l", 1, 1);
        Due.told(Due.times("0", 40) + "9223372036854775807l", 5, Long.MAX_VALUE);
        Due.faulty("1.0l", 1, 0);
        Due.faulty("1p0l", 1, 0);
        Due.faulty("1.0p0l", 1, 0);
        Due.faulty("1p-0l", 1, 0);
    }

    private static void realNumbers() {
        Due.sentence("all its digits (of both sides of the point, 0s ahead, too, 15 at most)");
        Due.told("12345678901234.5", 12345678901234.5);
        Due.faulty("123456789012345.6", 1, 0);
        Due.told("1.23456789012345", 123456789012345.0 / 1e14);
        Due.faulty("1.234567890123456", 1, 0);
        Due.told("00000000000001.5", 1.5);
        Due.faulty("000000000000001.5", 1, 0);
        Due.told("1.50000000000000", 1.5);
        Due.faulty("1.500000000000000", 1, 0);
        Due.told("999999999999999f", (float) 999999999999999.0);
        Due.faulty("1000000000000000f", 1, 0);
        Due.told("999999999999999p0", 999999999999999.0);
        Due.faulty("0000000000000000p0", 1, 0);
        Due.told("000000000000000p0", 0.0);
        Due.told("0.00000000000001", 1 / 1e14);
        // The digits of p are none of these.
        Due.told("12345678901234.5p00000000000000001", 24691357802469.0);
        Due.sentence("as a whole, DIVIDED (as a DOUBLE) by 10 to the number of those behind the point, .. rounded once each");
        Due.told("0.1", 1 / 10.0);
        Due.told("0.3", 3 / 10.0);
        Due.told("1.1", 11 / 10.0);
        Due.told("9.99999999999999", 999999999999999.0 / 1e14);
        Due.told("0.1p-1073", Math.scalb(0.1, -1073));
        Due.told("0.1p-1060", Math.scalb(0.1, -1060));
        Due.told("1.5p-1074", 2 * Double.MIN_VALUE);
        Due.told("0.5p-1074", 0.0);
        Due.told("0.75p-1074", Double.MIN_VALUE);
        Due.told("2.5p-1074", 2 * Double.MIN_VALUE);
        Due.sentence("TIMES 2 to the p (1100 at most, either way)");
        Due.told("0p1099", 0.0);
        Due.told("0p1100", 0.0);
        Due.faulty("0p1101", 1, 0);
        Due.told("0p-1100", 0.0);
        Due.faulty("0p-1101", 1, 0);
        Due.faulty("0p99999999999999999999", 1, 0);
        Due.faulty("0p4294967296", 1, 0);
        Due.faulty("0p-18446744073709551616", 1, 0);
        Due.told("1p-1074", Double.MIN_VALUE);
        Due.told("1p-1075", 0.0);
        Due.told("999999999999999p-1100", Math.scalb(999999999999999.0, -1100));
        Due.told("1p-1100", 0.0);
        Due.told("1p-1100f", 0f);
        Due.told("1p0", 1.0);
        Due.told("1p-0", 1.0);
        Due.told("0p0000000001100f", 0f);
        Due.told("0.00000000000001p1070", Math.scalb(1 / 1e14, 1070));
        Due.faulty("0.00000000000001p1100", 1, 0);
    }

    private static void finiteNumbers() {
        Due.sentence("with f that becomes a FLOAT; it must be finite");
        Due.told("1p1023", 0x1p1023);
        Due.faulty("1p1024", 1, 0);
        Due.faulty("2p1023", 1, 0);
        Due.told("0.99999999999999p1024", Math.scalb(99999999999999.0 / 1e14, 1024));
        Due.told("1.99999999999999p1023", Math.scalb(199999999999999.0 / 1e14, 1023));
        Due.told("1p127f", 0x1p127f);
        Due.faulty("1p128f", 1, 0);
        Due.faulty("2p127f", 1, 0);
        Due.told("16777215p104f", Float.MAX_VALUE);
        Due.faulty("16777216p104f", 1, 0);
        Due.faulty("33554431p103f", 1, 0);
        Due.told("67108861p102f", Float.MAX_VALUE);
        Due.faulty("67108862p102f", 1, 0);
        Due.told("281474968322047p80f", Float.MAX_VALUE);
        Due.faulty("281474968322048p80f", 1, 0);
        Due.faulty("1p1024f", 1, 0);
        Due.told("1p-149f", Float.MIN_VALUE);
        Due.told("1p-150f", 0f);
        Due.told("3p-151f", Float.MIN_VALUE);
        // It is a DOUBLE first: rounded twice.
        Due.told("0.1f", (float) 0.1);
        Due.told("3f", 3f);
        Due.told("16777217f", 0x1p24f);
    }

    private static void notAsTold() {
        Due.sentence("What stands right behind, digits, letters, a point, belongs to it; if the whole is not as told, it is no token");
        String[] none = {"1.", "1..5", "1.5.", "1.5.5", "1.p3", "1.f", "1.l", "1p", "1pp1", "1p-", "1p--1", "1p.5", "1p1.5",
            "1p-f", "1pf", "1p1p1", "1l1", "1l.", "1ll", "1lf", "1fl", "1f1", "1f.5", "1ff", "1a", "1e5", "1E5", "1x0", "0x1", "1P1",
            "1L", "1F", "1D", "1d", "1if", "2then", "1p1100x", "1p5a"};
        for (String text : none) {
            Due.faulty(text, 1, 0);
            Due.faulty("3*" + text, 1, 2);
            Due.faultyPlan("cam c=1,-" + text + ";", 1, 9);
        }
        Due.faulty("1p+1", 1, 0);
        Due.faulty("1p- 1", 1, 0);
        Due.faulty(".5", 1, 0);
        Due.faulty("5 .5", 1, 2);
        Due.faulty("1_", 1, 1);
        Due.faulty("1\u00e9", 1, 1);
        Due.told("1-1", 4, 0);
        Due.told("1p1-1", 1.0);
        Due.told("1p-1-1", -0.5);
        Due.told("1l-1", 5, 0);
        Due.told("1.5p1f", 3f);
        Due.told("1.5p-1f", 0.75f);
        Due.told("1f", 1f);
        Due.told("1.5", 1.5);
        // Wherever such a one stands: also where no NUMBER could.
        Due.faulty("1 1x", 1, 2);
        Due.faulty("(int 1x", 1, 5);
        Due.faultyPlan("1x", 1, 0);
    }

    private static void cams() {
        Due.sentence("CAM: .. each becomes a DOUBLE; with - its sign is turned round then, of 0, too");
        String[] numbers = {"0", "-0", "0.0", "-0.0", "-0f", "-0l", "2147483647", "-2147483647", "9223372036854775807l", "-9223372036854775807l",
            "9007199254740993l", "-9007199254740993l", "0.1f", "-0.1f", "-1p-1074", "1p1023", "-16777215p104f"};
        double[] due = {0.0, -0.0, 0.0, -0.0, -0.0, -0.0, 2147483647.0, -2147483647.0, 0x1p63, -0x1p63, 0x1p53, -0x1p53, 0.1f, -0.1f,
            -Double.MIN_VALUE, 0x1p1023, -Float.MAX_VALUE};
        TurningHall hall = Due.planned("cam c=" + String.join(",", numbers) + ";cam d= - 0 , -1;");
        for (int k = 0; k < due.length; k++) {
            Due.told(hall, "c[" + k + "]", 7, Due.bits(due[k]));
        }
        Due.told(hall, "d[0]", 7, Due.bits(-0.0));
        Due.told(hall, "d[1]", 7, Due.bits(-1));
        Due.due("beyond", Due.ask(hall, "c[" + due.length + "]"), 12);
        Due.due("beyond", Due.ask(hall, "d[2]"), 12);
        Due.faultyPlan("cam c=2147483648;", 1, 6);
        Due.faultyPlan("cam c=-2147483648;", 1, 7);
        Due.faultyPlan("cam c=-9223372036854775808l;", 1, 7);
    }

    public static void main(String[] args) {
        bytes();
        blanks();
        longest();
        names();
        words();
        wholeNumbers();
        realNumbers();
        finiteNumbers();
        notAsTold();
        cams();
        Due.finish("TokensBoundaryTest");
    }
}
