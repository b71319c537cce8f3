/** SORTS of an E at their boundaries: every sign with every sort, by tables written from the document's words. */
public final class SortsBoundaryTest {
    private static final String[] SORTS = {"truth", "byte", "short", "char", "int", "long", "float", "double"};
    private static final String[] NAMES = {"t", "b", "s", "c", "i", "l", "f", "d"};
    private static final String PLAN = "part t:truth=true then t;part b:byte=(byte)3 then b;part s:short=(short)3 then s;"
        + "part c:char=(char)3 then c;part i:int=3 then i;part l:long=3 then l;part f:float=3 then f;part d:double=3 then d;"
        + "cam k=10,20,30,40;";
    private static final int FAULT = -1;

    /** Asks of a new hall, as one is used for 512 calls at most. */
    private static void due(String text, int sort, int place) {
        TurningHall hall = Due.planned(PLAN);
        Due.due("sort of " + text, Due.ask(hall, text), sort == FAULT ? -1 - place : sort);
        Due.due("kind of " + text, hall.fault(), sort == FAULT ? 4 : 0);
    }

    private static int joined(int one, int two) {
        if (one == 0 || two == 0) {
            return FAULT;
        }
        for (int sort = 7; sort > 4; sort--) {
            if (one == sort || two == sort) {
                return sort;
            }
        }
        return 4;
    }

    private static void ownSorts() {
        Due.sentence("a NUMBER's, a NAME's own; ticks LONG; step DOUBLE; true, false TRUTH; old (NAME) the thing's");
        due("1", 4, 0);
        due("1l", 5, 0);
        due("1f", 6, 0);
        due("1.0", 7, 0);
        due("1p0", 7, 0);
        due("ticks", 5, 0);
        due("step", 7, 0);
        due("true", 0, 0);
        due("false", 0, 0);
        for (int k = 0; k < 8; k++) {
            due(NAMES[k], k, 0);
            due("old(" + NAMES[k] + ")", k, 0);
            due("(" + NAMES[k] + ")", k, 0);
        }
    }

    private static void indices() {
        Due.sentence("cam [ E ] DOUBLE, the index one of BYTE .. INT");
        for (int k = 0; k < 8; k++) {
            due("k[" + NAMES[k] + "]", k >= 1 && k <= 4 ? 7 : FAULT, 1);
        }
        TurningHall hall = Due.planned(PLAN);
        for (int k = 1; k <= 4; k++) {
            Due.told(hall, "k[" + NAMES[k] + "]", 7, Due.bits(40));
        }
    }

    private static void twoParts() {
        Due.sentence("Of two wholes or reals JOINED: DOUBLE, if one is; else FLOAT, if one is; else LONG, if one is; else INT");
        for (int one = 0; one < 8; one++) {
            for (int two = 0; two < 8; two++) {
                String left = NAMES[one];
                String right = NAMES[two];
                int joined = joined(one, two);
                boolean truths = one == 0 && two == 0;
                for (String sign : new String[] {"+", "-", "*", "/", "%"}) {
                    due(left + sign + right, joined, 1);
                }
                for (String sign : new String[] {"<", "<=", ">", ">="}) {
                    due(left + sign + right, joined == FAULT ? FAULT : 0, 1);
                }
                for (String sign : new String[] {"==", "!="}) {
                    due(left + sign + right, joined == FAULT && !truths ? FAULT : 0, 1);
                }
                for (String sign : new String[] {"&&", "||"}) {
                    due(left + sign + right, truths ? 0 : FAULT, 1);
                }
                due("least(" + left + "," + right + ")", joined, 0);
                due("most(" + left + "," + right + ")", joined, 0);
                due("gcd(" + left + "," + right + ")", joined == FAULT ? FAULT : 7, 0);
            }
        }
        Due.sentence("both become that first");
        Due.told("2147483647+1l", 5, 2147483648L);
        Due.told("16777217-0f", 0x1p24f);
        Due.told("9007199254740993l*1.0", 0x1p53);
        Due.told("9007199254740993l==1p53", 0, 1);
        Due.told("16777217l>1p24f", 0, 0);
        Due.told("least(16777217,1p25f)", 0x1p24f);
        Due.told("1/2", 4, 0);
        Due.told("1/2f", 0.5f);
        Due.told("1/2+0.5", 0.5);
        Due.told("(byte)-1<(char)65535", 0, 1);
        Due.told("(byte)-1==(char)65535", 0, 0);
    }

    private static void onePart() {
        Due.sentence("- ahead: INT of BYTE .. INT, else its own (not TRUTH); ! TRUTHS");
        for (int k = 0; k < 8; k++) {
            due("-" + NAMES[k], k == 0 ? FAULT : Math.max(k, 4), 0);
            due("!" + NAMES[k], k == 0 ? 0 : FAULT, 0);
        }
        Due.sentence("floor, ceil, rint, abs: a real or whole, that becomes a DOUBLE, gives that");
        for (String word : new String[] {"floor", "ceil", "rint", "abs"}) {
            for (int k = 0; k < 8; k++) {
                due("1+" + word + "(" + NAMES[k] + ")", k == 0 ? FAULT : 7, 2);
            }
            Due.told(word + "(9007199254740993l)", 0x1p53);
            Due.told(word + "(16777217)", 16777217.0);
        }
        Due.told("abs(-9223372036854775807l-1)", 0x1p63);
        Due.told("abs(0.1f)", (double) 0.1f);
        Due.sentence("gcd: both become DOUBLEs");
        Due.told("gcd(9007199254740993l,3)", 1.0 * (9007199254740992L % 3 == 0 ? 3 : 1));
        Due.told("gcd(0.1f,0)", (double) 0.1f);
    }

    private static void casts() {
        Due.sentence("A cast: any but TRUTH to any but TRUTH (TRUTH to TRUTH, too): it becomes that");
        for (int to = 0; to < 8; to++) {
            for (int from = 0; from < 8; from++) {
                due("1==1&&(" + SORTS[to] + ")" + NAMES[from] + "==" + NAMES[to], (to == 0) == (from == 0) ? 0 : FAULT, 6);
                due("(" + SORTS[to] + ")" + NAMES[from], (to == 0) == (from == 0) ? to : FAULT, 0);
            }
        }
        Due.told("(truth)false", 0, 0);
        Due.told("(truth)true", 0, 1);
    }

    private static void choices() {
        Due.sentence("? : a TRUTH, then two TRUTHS, or two that are JOINED");
        for (int one = 0; one < 8; one++) {
            for (int two = 0; two < 8; two++) {
                int sort = one == 0 && two == 0 ? 0 : joined(one, two);
                due("t?" + NAMES[one] + ":" + NAMES[two], sort, 1);
                due("!t?" + NAMES[one] + ":" + NAMES[two], sort, 2);
            }
            due(NAMES[one] + "?1:2", one == 0 ? 4 : FAULT, 1);
            due(NAMES[one] + "?t:t", one == 0 ? 0 : FAULT, 1);
        }
        Due.told("true?16777217:0f", 0x1p24f);
        Due.told("false?0f:16777217", 0x1p24f);
        Due.told("true?1:2l", 5, 1);
        Due.told("false?2.5:1f", 1.0);
        Due.told("true?(char)65535:(byte)-1", 4, 65535);
        Due.told("false?(char)65535:(byte)-1", 4, -1);
        Due.told("true?0.1f:1.0", (double) 0.1f);
        Due.told("false?1.0:0.1f", (double) 0.1f);
        Due.told("false?1:0.1", 0.1);
        Due.told("false?1f:0.1", 0.1);
        Due.told("true?0.1:1", 0.1);
        Due.told("true?0.1:1f", 0.1);
        Due.told("false?1:0.1f", 0.1f);
    }

    private static void whatThingsGet() {
        Due.sentence("What a THING gets: TRUTH for TRUTH; its own sort, or one that comes to it: BYTE to SHORT; ..");
        // A row for each thing's sort: the sorts that come to it.
        String[] comes = {"0", "1", "12", "3", "1234", "12345", "123456", "1234567"};
        for (int to = 0; to < 8; to++) {
            for (int from = 0; from < 8; from++) {
                boolean fits = comes[to].indexOf('0' + from) >= 0;
                String show = PLAN + "show x:" + SORTS[to] + "=" + NAMES[from] + ";";
                String part = PLAN + "part x:" + SORTS[to] + "=" + NAMES[to] + " then " + NAMES[from] + ";";
                TurningHall hall = new TurningHall();
                Due.due(show, Due.plan(hall, show), fits ? 9 : -1 - show.lastIndexOf('='));
                Due.due(part, Due.plan(hall, part), fits ? 9 : -1 - part.lastIndexOf("then"));
            }
        }
        Due.sentence("it becomes that (never jams)");
        TurningHall hall = Due.planned("show a:float=9223372036854775807l;show b:double=9007199254740993l;show c:float=16777217;"
            + "show d:double=0.1f;show e:long=(char)65535;show g:int=(char)65535;show h:short=(byte)-128;"
            + "part k:float=0 then 0-9223372036854775807l-1;");
        Due.due("LONG to FLOAT", hall.value(0, 0), Float.floatToRawIntBits(0x1p63f));
        Due.due("LONG to DOUBLE", hall.value(1, 0), Due.bits(0x1p53));
        Due.due("INT to FLOAT", hall.value(2, 0), Float.floatToRawIntBits(0x1p24f));
        Due.due("FLOAT to DOUBLE", hall.value(3, 0), Due.bits(0.1f));
        Due.due("CHAR to LONG", hall.value(4, 0), 65535);
        Due.due("CHAR to INT", hall.value(5, 0), 65535);
        Due.due("BYTE to SHORT", hall.value(6, 0), -128);
        hall.tick(1);
        Due.due("the least LONG to FLOAT", hall.value(7, 0), Float.floatToRawIntBits(-0x1p63f));
        for (int i = 0; i < 8; i++) {
            Due.due("no jam of " + i, hall.thing(i, 3), 0);
        }
        Due.sentence("A BELL's is a TRUTH");
        for (int k = 0; k < 8; k++) {
            String text = PLAN + "bell x when " + NAMES[k] + ";";
            TurningHall fresh = new TurningHall();
            Due.due(text, Due.plan(fresh, text), k == 0 ? 8 : -1 - text.lastIndexOf("when"));
        }
    }

    public static void main(String[] args) {
        ownSorts();
        indices();
        twoParts();
        onePart();
        casts();
        choices();
        whatThingsGet();
        Due.finish("SortsBoundaryTest");
    }
}
