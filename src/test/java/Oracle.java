import java.math.BigInteger;
import java.time.LocalDate;
import java.time.temporal.ChronoUnit;
import java.util.ArrayDeque;
import java.util.ArrayList;
import java.util.Arrays;
import java.util.Deque;
import java.util.HashMap;
import java.util.HashSet;
import java.util.LinkedList;
import java.util.List;
import java.util.Map;
import java.util.Set;
import java.util.regex.Matcher;
import java.util.regex.Pattern;

/**
 * The document once more, written apart from the class and by other means: recursion, exceptions, trees and the
 * machine's own doubles. Tests compare the two.
 */
final class Oracle {
    static final List<String> SORTS =
        List.of("truth", "byte", "short", "char", "int", "long", "float", "double");
    private static final Set<String> WORDS = new HashSet<>(Arrays.asList(("part show cam bell then when old step"
        + " ticks floor ceil rint abs least most gcd true false truth byte short char int long float double")
        .split(" ")));
    private static final Pattern NUMBER = Pattern.compile("([0-9]+)(\\.([0-9]+))?(p(-?[0-9]+))?([lf]?)");
    private static final Pattern RUN = Pattern.compile("[A-Za-z0-9]+");
    private static final Pattern SIGN = Pattern.compile("<=|>=|==|!=|&&|\\|\\||[:;,=?()\\[\\]+\\-*/%!<>]");

    private static final class Fault extends RuntimeException {
        final int kind;
        final int place;

        Fault(int kind, int place) {
            super(null, null, false, false);
            this.kind = kind;
            this.place = place;
        }
    }

    private static final class Jam extends RuntimeException {
        final int kind;
        final int place;

        Jam(int kind, int place) {
            super(null, null, false, false);
            this.kind = kind;
            this.place = place;
        }
    }

    private record Token(String kind, String text, int place, int sort, long bits) { }

    private static final class Node {
        final String op;
        final int place;
        final List<Node> kids = new ArrayList<>();
        String name;
        int namePlace;
        int castTo;
        int sort;
        int joined;
        long bits;

        Node(String op, int place, Node... kids) {
            this.op = op;
            this.place = place;
            this.kids.addAll(Arrays.asList(kids));
        }
    }

    private static final class Told {
        String word;
        String name;
        int namePlace;
        int sort;
        int index;
        int thingsAhead;
        int camsAhead;
        Node first;
        Node next;
        int firstPlace;
        int nextPlace;
        final List<Double> teeth = new ArrayList<>();
    }

    private static final class Text {
        final List<Told> all = new ArrayList<>();
        final List<Told> things = new ArrayList<>();
        final List<Told> bells = new ArrayList<>();
        final List<Told> cams = new ArrayList<>();
        Node asked;
        int nodes;
    }

    private static final class Works implements Cloneable {
        long ticks;
        double step = 1.0;
        long[] values = new long[0];
        long[] olds = new long[0];
        int[][] jams = new int[0][];
        int[] counts = new int[0];
        LinkedList<long[]> strikes = new LinkedList<>();
        LinkedList<long[]> pasts = new LinkedList<>();

        Works copy() {
            Works w = new Works();
            w.ticks = ticks;
            w.step = step;
            w.values = values.clone();
            w.olds = olds.clone();
            w.jams = new int[jams.length][];
            for (int k = 0; k < jams.length; k++) {
                w.jams[k] = jams[k].clone();
            }
            w.counts = counts.clone();
            w.strikes = new LinkedList<>(strikes);
            w.pasts = new LinkedList<>(pasts);
            return w;
        }
    }

    // ---- the reading

    private String text;
    private Deque<Token> tokens;
    private int depth;
    private int tooMuch;
    private Text being;

    private Token lex(int from) {
        int p = from;
        while (p < text.length() && "\t\n ".indexOf(text.charAt(p)) >= 0) {
            p++;
        }
        if (p == text.length()) {
            return new Token("end", "", p, 0, 0);
        }
        char c = text.charAt(p);
        if (c < 128 && Character.isLetter(c)) {
            Matcher m = RUN.matcher(text).region(p, text.length());
            m.lookingAt();
            String run = m.group();
            if (run.length() > 10) {
                return new Token("bad", run, p + 10, 0, 0);
            }
            return new Token(WORDS.contains(run) ? run : "NAME", run, p, 0, 0);
        }
        if (c < 128 && Character.isDigit(c)) {
            return lexNumber(p);
        }
        Matcher m = SIGN.matcher(text).region(p, text.length());
        if (!m.lookingAt()) {
            return new Token("bad", "" + c, p, 0, 0);
        }
        return new Token(m.group(), m.group(), p, 0, 0);
    }

    private Token lexNumber(int p) {
        Matcher m = NUMBER.matcher(text).region(p, text.length());
        Token bad = new Token("bad", "", p, 0, 0);
        m.lookingAt();
        if (m.end() < text.length() && ("" + text.charAt(m.end())).matches("[A-Za-z0-9.]")) {
            return bad;
        }
        String all = m.group();
        boolean plain = m.group(2) == null && m.group(4) == null;
        String mark = m.group(6);
        if (mark.equals("l") || plain && mark.isEmpty()) {
            BigInteger n = new BigInteger(m.group(1));
            boolean isLong = mark.equals("l");
            if (!plain || n.compareTo(BigInteger.valueOf(isLong ? Long.MAX_VALUE : Integer.MAX_VALUE)) > 0) {
                return bad;
            }
            return new Token("NUMBER", all, p, isLong ? 5 : 4, n.longValue());
        }
        String behind = m.group(3) == null ? "" : m.group(3);
        String digits = m.group(1) + behind;
        BigInteger power = m.group(5) == null ? BigInteger.ZERO : new BigInteger(m.group(5));
        if (digits.length() > 15 || power.abs().compareTo(BigInteger.valueOf(1100)) > 0) {
            return bad;
        }
        double tens = 1;
        for (int k = 0; k < behind.length(); k++) {
            tens *= 10;
        }
        double x = Math.scalb((double) Long.parseLong(digits) / tens, power.intValue());
        if (mark.equals("f")) {
            float f = (float) x;
            return Float.isInfinite(f) ? bad : new Token("NUMBER", all, p, 6, Float.floatToIntBits(f));
        }
        return Double.isInfinite(x) ? bad : new Token("NUMBER", all, p, 7, Double.doubleToLongBits(x));
    }

    private Token peek() {
        if (tokens.isEmpty()) {
            tokens.add(lex(position));
        }
        return tokens.peek();
    }

    private int position;

    private Token take(String... kinds) {
        Token t = peek();
        if (!Arrays.asList(kinds).contains(t.kind)) {
            throw new Fault(1, t.place);
        }
        tokens.clear();
        position = t.place + t.text.length();
        return t;
    }

    private boolean next(String... kinds) {
        return Arrays.asList(kinds).contains(peek().kind);
    }

    private void tooMuch(int place) {
        if (tooMuch < 0) {
            tooMuch = place;
        }
    }

    private void node(int place) {
        if (++being.nodes == 501) {
            tooMuch(place);
        }
    }

    private void open() {
        if (depth == 40) {
            throw new Fault(1, peek().place);
        }
        depth++;
    }

    private Text parse(String source, boolean asked) {
        text = source;
        tokens = new ArrayDeque<>();
        position = 0;
        depth = 0;
        tooMuch = -1;
        being = new Text();
        if (asked) {
            being.asked = e();
            take("end");
        } else {
            while (!next("end")) {
                statement();
            }
        }
        if (tooMuch >= 0) {
            throw new Fault(2, tooMuch);
        }
        return being;
    }

    private void statement() {
        Told t = new Told();
        t.word = take("part", "show", "cam", "bell").kind;
        Token name = take("NAME");
        t.name = name.text;
        t.namePlace = name.place;
        t.thingsAhead = being.things.size();
        t.camsAhead = being.cams.size();
        List<Told> row = t.word.equals("cam") ? being.cams : t.word.equals("bell") ? being.bells : being.things;
        t.index = row.size();
        row.add(t);
        being.all.add(t);
        if (row.size() > (row == being.cams ? 8 : row == being.bells ? 12 : 40)) {
            tooMuch(name.place);
        }
        if (t.word.equals("cam")) {
            take("=");
            boolean more = true;
            while (more) {
                boolean minus = next("-");
                if (minus) {
                    take("-");
                }
                Token n = take("NUMBER");
                double x = asDouble(n.bits, n.sort);
                t.teeth.add(minus ? -x : x);
                if (t.teeth.size() == 25) {
                    tooMuch(n.place);
                }
                more = next(",");
                if (more) {
                    take(",");
                }
            }
        } else if (t.word.equals("bell")) {
            t.nextPlace = take("when").place;
            t.next = e();
        } else {
            take(":");
            t.sort = SORTS.indexOf(take(SORTS.toArray(new String[0])).kind);
            t.firstPlace = take("=").place;
            t.first = e();
            if (t.word.equals("part")) {
                t.nextPlace = take("then").place;
                t.next = e();
            }
        }
        take(";");
    }

    private Node e() {
        Node o = level(0);
        if (!next("?")) {
            return o;
        }
        open();
        Token q = take("?");
        node(q.place);
        Node one = e();
        take(":");
        Node two = e();
        depth--;
        return new Node("?", q.place, o, one, two);
    }

    private static final String[][] LEVELS = {
        {"||"}, {"&&"}, {"==", "!="}, {"<", "<=", ">", ">="}, {"+", "-"}, {"*", "/", "%"},
    };

    private Node level(int k) {
        if (k == LEVELS.length) {
            return u();
        }
        Node left = level(k + 1);
        while (next(LEVELS[k])) {
            Token sign = take(LEVELS[k]);
            node(sign.place);
            left = new Node(sign.kind, sign.place, left, level(k + 1));
            if (k == 2 || k == 3) {
                break;
            }
        }
        return left;
    }

    private Node u() {
        if (next("-", "!")) {
            open();
            Token sign = take("-", "!");
            node(sign.place);
            Node part = u();
            depth--;
            return new Node(sign.kind.equals("-") ? "neg" : "!", sign.place, part);
        }
        if (!next("(")) {
            return p();
        }
        open();
        Token round = take("(");
        if (SORTS.contains(peek().kind)) {
            node(round.place);
            int to = SORTS.indexOf(take(peek().kind).kind);
            take(")");
            Node cast = new Node("cast", round.place, u());
            cast.castTo = to;
            depth--;
            return cast;
        }
        Node inner = e();
        take(")");
        depth--;
        return inner;
    }

    private Node p() {
        Token t = take("NUMBER", "true", "false", "ticks", "step", "NAME", "old", "floor", "ceil", "rint", "abs",
            "least", "most", "gcd");
        node(t.place);
        Node n = new Node(t.kind, t.place);
        switch (t.kind) {
            case "NUMBER":
                n.sort = t.sort;
                n.bits = t.bits;
                return n;
            case "true", "false", "ticks", "step":
                return n;
            case "NAME":
                n.name = t.text;
                n.namePlace = t.place;
                if (!next("[")) {
                    return n;
                }
                open();
                Node cam = new Node("cam", take("[").place, e());
                take("]");
                depth--;
                cam.name = t.text;
                cam.namePlace = t.place;
                return cam;
            case "old":
                if (next("(")) {
                    open();
                }
                take("(");
                Token name = take("NAME");
                n.name = name.text;
                n.namePlace = name.place;
                take(")");
                depth--;
                return n;
            default:
                if (next("(")) {
                    open();
                }
                take("(");
                n.kids.add(e());
                if (List.of("least", "most", "gcd").contains(t.kind)) {
                    take(",");
                    n.kids.add(e());
                }
                take(")");
                depth--;
                return n;
        }
    }

    // ---- names and sorts

    private int worstName;

    private void names(Text read, Text known) {
        worstName = Integer.MAX_VALUE;
        Map<String, Told> seen = new HashMap<>();
        for (Told t : read.all) {
            if (seen.putIfAbsent(t.name, t) != null) {
                worstName = Math.min(worstName, t.namePlace);
            }
        }
        if (read.asked != null) {
            names(read.asked, known.things, known.cams);
        }
        for (Told t : read.all) {
            if (t.first != null) {
                names(t.first, read.things.subList(0, t.thingsAhead), read.cams.subList(0, t.camsAhead));
            }
            if (t.next != null) {
                names(t.next, read.things, read.cams);
            }
        }
        if (worstName < Integer.MAX_VALUE) {
            throw new Fault(3, worstName);
        }
    }

    private void names(Node n, List<Told> things, List<Told> cams) {
        if (n.name != null) {
            List<Told> row = n.op.equals("cam") ? cams : things;
            if (row.stream().noneMatch(t -> t.name.equals(n.name))) {
                worstName = Math.min(worstName, n.namePlace);
            }
        }
        for (Node kid : n.kids) {
            names(kid, things, cams);
        }
    }

    private static Told named(List<Told> row, String name) {
        return row.stream().filter(t -> t.name.equals(name)).findFirst().orElseThrow();
    }

    private static int join(int a, int b) {
        if (a == 7 || b == 7) {
            return 7;
        }
        if (a == 6 || b == 6) {
            return 6;
        }
        return a == 5 || b == 5 ? 5 : 4;
    }

    private static void need(boolean good, Node n) {
        if (!good) {
            throw new Fault(4, n.place);
        }
    }

    private int sorts(Node n, Text known) {
        int[] s = new int[n.kids.size()];
        for (int k = 0; k < s.length; k++) {
            s[k] = sorts(n.kids.get(k), known);
        }
        return n.sort = sortOf(n, s, known);
    }

    private int sortOf(Node n, int[] s, Text known) {
        switch (n.op) {
            case "NUMBER":
                return n.sort;
            case "true", "false":
                return 0;
            case "ticks":
                return 5;
            case "step":
                return 7;
            case "NAME", "old":
                return named(known.things, n.name).sort;
            case "cam":
                need(s[0] >= 1 && s[0] <= 4, n);
                return 7;
            case "neg":
                need(s[0] != 0, n);
                return s[0] < 4 ? 4 : s[0];
            case "!":
                need(s[0] == 0, n);
                return 0;
            case "cast":
                need(s[0] == 0 ? n.castTo == 0 : n.castTo != 0, n);
                return n.castTo;
            case "floor", "ceil", "rint", "abs":
                need(s[0] != 0, n);
                return 7;
            case "gcd":
                need(s[0] != 0 && s[1] != 0, n);
                return 7;
            case "&&", "||":
                need(s[0] == 0 && s[1] == 0, n);
                return 0;
            case "?":
                need(s[0] == 0 && (s[1] == 0) == (s[2] == 0), n);
                return s[1] == 0 ? 0 : join(s[1], s[2]);
            case "==", "!=":
                need((s[0] == 0) == (s[1] == 0), n);
                n.joined = s[0] == 0 ? 0 : join(s[0], s[1]);
                return 0;
            case "<", "<=", ">", ">=":
                need(s[0] != 0 && s[1] != 0, n);
                n.joined = join(s[0], s[1]);
                return 0;
            default:
                need(s[0] != 0 && s[1] != 0, n);
                n.joined = join(s[0], s[1]);
                return n.joined;
        }
    }

    private static final String[] COMES = {"0", "1", "12", "3", "1234", "12345", "123456", "1234567"};

    private void sorts(Text read, Text known) {
        if (read.asked != null) {
            sorts(read.asked, known);
        }
        for (Told t : read.all) {
            if (t.first != null && COMES[t.sort].indexOf('0' + sorts(t.first, known)) < 0) {
                throw new Fault(4, t.firstPlace);
            }
            if (t.next != null) {
                int given = sorts(t.next, known);
                boolean good = t.word.equals("bell") ? given == 0 : COMES[t.sort].indexOf('0' + given) >= 0;
                if (!good) {
                    throw new Fault(4, t.nextPlace);
                }
            }
        }
    }

    // ---- the working

    private static double asDouble(long bits, int sort) {
        return sort == 7 ? Double.longBitsToDouble(bits)
            : sort == 6 ? Float.intBitsToFloat((int) bits) : (double) bits;
    }

    private static float asFloat(long bits, int sort) {
        return sort == 7 ? (float) Double.longBitsToDouble(bits)
            : sort == 6 ? Float.intBitsToFloat((int) bits) : (float) bits;
    }

    private static long become(long bits, int from, int to) {
        boolean real = from >= 6;
        double d = real ? asDouble(bits, from) : 0;
        switch (to) {
            case 1:
                return real ? (byte) d : (byte) bits;
            case 2:
                return real ? (short) d : (short) bits;
            case 3:
                return real ? (char) d : (char) bits;
            case 4:
                return real ? (int) d : (int) bits;
            case 5:
                return real ? (long) d : bits;
            case 6:
                return Float.floatToRawIntBits(asFloat(bits, from));
            case 7:
                return Double.doubleToRawLongBits(asDouble(bits, from));
            default:
                return bits;
        }
    }

    private static long bits(double d) {
        return Double.doubleToRawLongBits(d);
    }

    private static long bits(float f) {
        return Float.floatToRawIntBits(f);
    }

    static double gcd(double a, double b) {
        double x = Math.abs(a);
        double y = Math.abs(b);
        while (y != 0) {
            double r = x % y;
            x = y;
            y = r;
        }
        return x;
    }

    private long eval(Node n) {
        switch (n.op) {
            case "NUMBER":
                return n.bits;
            case "true":
                return 1;
            case "false":
                return 0;
            case "ticks":
                return works.ticks;
            case "step":
                return bits(works.step);
            case "NAME":
                return works.values[named(plan.things, n.name).index];
            case "old":
                return works.olds[named(plan.things, n.name).index];
            case "cam":
                long index = eval(n.kids.get(0));
                List<Double> teeth = named(plan.cams, n.name).teeth;
                if (index < 0 || index >= teeth.size()) {
                    throw new Jam(4, n.place);
                }
                return bits(teeth.get((int) index));
            case "&&":
                return eval(n.kids.get(0)) == 0 ? 0 : eval(n.kids.get(1));
            case "||":
                return eval(n.kids.get(0)) == 1 ? 1 : eval(n.kids.get(1));
            case "?":
                Node kid = n.kids.get(eval(n.kids.get(0)) == 1 ? 1 : 2);
                return become(eval(kid), kid.sort, n.sort);
            default:
                return n.kids.size() == 1 ? one(n) : two(n);
        }
    }

    private long one(Node n) {
        Node kid = n.kids.get(0);
        long x = eval(kid);
        double d = asDouble(x, kid.sort);
        switch (n.op) {
            case "!":
                return x == 0 ? 1 : 0;
            case "neg":
                return n.sort == 4 ? (int) -x : n.sort == 5 ? -x
                    : n.sort == 6 ? bits(-Float.intBitsToFloat((int) x)) : bits(-d);
            case "floor":
                return bits(Math.floor(d));
            case "ceil":
                return bits(Math.ceil(d));
            case "rint":
                return bits(Math.rint(d));
            case "abs":
                return bits(Math.abs(d));
            default:
                long to = become(x, kid.sort, n.castTo);
                if (n.castTo == 6 && Float.isInfinite(Float.intBitsToFloat((int) to))) {
                    throw new Jam(3, n.place);
                }
                return to;
        }
    }

    private long two(Node n) {
        Node p = n.kids.get(0);
        Node q = n.kids.get(1);
        long left = eval(p);
        long right = eval(q);
        if (n.op.equals("gcd")) {
            return bits(gcd(asDouble(left, p.sort), asDouble(right, q.sort)));
        }
        long a = become(left, p.sort, n.joined);
        long b = become(right, q.sort, n.joined);
        switch (n.joined) {
            case 7:
                return doubles(n, Double.longBitsToDouble(a), Double.longBitsToDouble(b));
            case 6:
                return floats(n, Float.intBitsToFloat((int) a), Float.intBitsToFloat((int) b));
            case 5:
                return longs(n, a, b);
            default:
                return ints(n, (int) a, (int) b);
        }
    }

    private static long truth(boolean b) {
        return b ? 1 : 0;
    }

    private static long doubles(Node n, double a, double b) {
        double d;
        switch (n.op) {
            case "<": return truth(a < b);
            case "<=": return truth(a <= b);
            case ">": return truth(a > b);
            case ">=": return truth(a >= b);
            case "==": return truth(a == b);
            case "!=": return truth(a != b);
            case "least": return bits(Math.min(a, b));
            case "most": return bits(Math.max(a, b));
            case "+": d = a + b; break;
            case "-": d = a - b; break;
            case "*": d = a * b; break;
            default:
                if (b == 0) {
                    throw new Jam(2, n.place);
                }
                d = n.op.equals("/") ? a / b : a % b;
        }
        if (Double.isInfinite(d)) {
            throw new Jam(3, n.place);
        }
        return bits(d);
    }

    private static long floats(Node n, float a, float b) {
        float d;
        switch (n.op) {
            case "<": return truth(a < b);
            case "<=": return truth(a <= b);
            case ">": return truth(a > b);
            case ">=": return truth(a >= b);
            case "==": return truth(a == b);
            case "!=": return truth(a != b);
            case "least": return bits(Math.min(a, b));
            case "most": return bits(Math.max(a, b));
            case "+": d = a + b; break;
            case "-": d = a - b; break;
            case "*": d = a * b; break;
            default:
                if (b == 0) {
                    throw new Jam(2, n.place);
                }
                d = n.op.equals("/") ? a / b : a % b;
        }
        if (Float.isInfinite(d)) {
            throw new Jam(3, n.place);
        }
        return bits(d);
    }

    private static long longs(Node n, long a, long b) {
        switch (n.op) {
            case "<": return truth(a < b);
            case "<=": return truth(a <= b);
            case ">": return truth(a > b);
            case ">=": return truth(a >= b);
            case "==": return truth(a == b);
            case "!=": return truth(a != b);
            case "least": return Math.min(a, b);
            case "most": return Math.max(a, b);
            case "+": return a + b;
            case "-": return a - b;
            case "*": return a * b;
            default:
                if (b == 0) {
                    throw new Jam(1, n.place);
                }
                return n.op.equals("/") ? a / b : a % b;
        }
    }

    private static long ints(Node n, int a, int b) {
        switch (n.op) {
            case "+": return a + b;
            case "-": return a - b;
            case "*": return a * b;
            case "/", "%":
                if (b == 0) {
                    throw new Jam(1, n.place);
                }
                return n.op.equals("/") ? a / b : a % b;
            default:
                return longs(n, a, b);
        }
    }

    // ---- the calls

    private final StringBuilder tape = new StringBuilder();
    private Text plan = new Text();
    private Works works = new Works();
    private int planNumber;
    private final Works[] kept = new Works[4];
    private final int[] keptFor = new int[4];
    private int fault;
    private long told;
    private String dialText = "";
    private int[] wheels = new int[0];

    int feed(int... five) {
        if (tape.length() + 20 > 3000) {
            return -1;
        }
        for (int n : five) {
            for (int shift = 24; shift >= 0; shift -= 8) {
                tape.append((char) (n >>> shift & 255));
            }
        }
        return tape.length();
    }

    int end(int n) {
        if (n < 0 || n > tape.length()) {
            return -1;
        }
        tape.setLength(n);
        return n;
    }

    private Text examine(boolean asked) {
        String source = tape.toString();
        tape.setLength(0);
        Text read = parse(source, asked);
        Text known = asked ? plan : read;
        names(read, known);
        sorts(read, known);
        return read;
    }

    int plan() {
        try {
            Text read = examine(false);
            fault = 0;
            plan = read;
            begin();
            return plan.things.size();
        } catch (Fault f) {
            fault = f.kind;
            return -1 - f.place;
        }
    }

    private void begin() {
        planNumber++;
        double step = works.step;
        works = new Works();
        works.step = step;
        works.values = new long[plan.things.size()];
        works.olds = new long[plan.things.size()];
        works.counts = new int[plan.bells.size()];
        works.jams = new int[plan.things.size() + plan.bells.size()][];
        for (int k = 0; k < works.jams.length; k++) {
            works.jams[k] = new int[] {0, 0, -1};
        }
        for (Told t : plan.things) {
            become(t, t.first);
            works.olds[t.index] = works.values[t.index];
        }
    }

    private void become(Told t, Node e) {
        try {
            works.values[t.index] = become(eval(e), e.sort, t.sort);
        } catch (Jam j) {
            jam(t.index, j);
        }
    }

    private void jam(int k, Jam j) {
        works.jams[k] = new int[] {works.jams[k][0] + 1, j.kind, j.place};
    }

    private void turn() {
        works.ticks++;
        works.pasts.addFirst(works.values.clone());
        if (works.pasts.size() > 31) {
            works.pasts.removeLast();
        }
        works.olds = works.values.clone();
        for (Told t : plan.all) {
            if (t.word.equals("bell")) {
                try {
                    if (eval(t.next) == 1) {
                        works.counts[t.index]++;
                        works.strikes.addFirst(new long[] {works.ticks, t.index});
                        if (works.strikes.size() > 64) {
                            works.strikes.removeLast();
                        }
                    }
                } catch (Jam j) {
                    jam(plan.things.size() + t.index, j);
                }
            } else if (!t.word.equals("cam")) {
                become(t, t.word.equals("part") ? t.next : t.first);
            }
        }
    }

    int fault() {
        return fault;
    }

    int count(int what) {
        int[] all = {plan.things.size(), plan.bells.size(), plan.cams.size(), plan.nodes, tape.length(),
            works.strikes.size(), dialText.length(), wheels.length};
        return what < 0 || what > 7 ? -1 : all[what];
    }

    int thing(int i, int what) {
        if (i >= 0 && i < plan.things.size()) {
            Told t = plan.things.get(i);
            int[] jams = works.jams[i];
            int[] all = {t.sort, t.word.equals("part") ? 1 : 0, t.name.length(), jams[0], jams[1], jams[2]};
            return what < 0 || what > 5 ? -1 : all[what];
        }
        if (i >= 100 && i < 100 + plan.bells.size()) {
            int[] jams = works.jams[plan.things.size() + i - 100];
            int[] all = {-1, -1, plan.bells.get(i - 100).name.length(), jams[0], jams[1], jams[2],
                works.counts[i - 100]};
            return what < 0 || what > 6 ? -1 : all[what];
        }
        return -1;
    }

    int letter(int i, int k) {
        List<Told> row = i < 100 ? plan.things : i < 200 ? plan.bells : plan.cams;
        int index = i < 100 ? i : i < 200 ? i - 100 : i - 200;
        if (index < 0 || index >= row.size() || k < 0 || k >= row.get(index).name.length()) {
            return -1;
        }
        return row.get(index).name.charAt(k);
    }

    long value(int i, int ago) {
        if (i < 0 || i >= plan.things.size() || ago < 0 || ago > works.pasts.size()) {
            return 0;
        }
        return ago == 0 ? works.values[i] : works.pasts.get(ago - 1)[i];
    }

    boolean set(int i, long bits) {
        if (i < 0 || i >= plan.things.size() || !plan.things.get(i).word.equals("part")) {
            return false;
        }
        int sort = plan.things.get(i).sort;
        long x = sort == 0 ? bits & 1 : sort == 6 ? (int) bits : sort == 7 ? bits : become(bits, 5, sort);
        if (sort == 6 && !Float.isFinite(Float.intBitsToFloat((int) x))
            || sort == 7 && !Double.isFinite(Double.longBitsToDouble(x))) {
            return false;
        }
        works.values[i] = x;
        works.olds[i] = x;
        return true;
    }

    boolean step(long bits) {
        double d = Double.longBitsToDouble(bits);
        if (!Double.isFinite(d)) {
            return false;
        }
        works.step = d;
        return true;
    }

    long tick(int n) {
        if (n < 0 || n > 500) {
            return -1;
        }
        for (int k = 0; k < n; k++) {
            turn();
        }
        return works.ticks;
    }

    long strike(int k, int what) {
        if (k < 0 || k >= works.strikes.size() || what < 0 || what > 1) {
            return -1;
        }
        return works.strikes.get(k)[what];
    }

    int ask() {
        try {
            Text read = examine(true);
            fault = 0;
            told = eval(read.asked);
            return read.asked.sort;
        } catch (Fault f) {
            fault = f.kind;
            return -1 - f.place;
        } catch (Jam j) {
            return 8 + j.kind;
        }
    }

    long told() {
        return told;
    }

    int await(int n) {
        if (n < 0 || n > 500) {
            tape.setLength(0);
            return -1;
        }
        try {
            Text read = examine(true);
            if (read.asked.sort != 0) {
                throw new Fault(4, 0);
            }
            fault = 0;
            int done = 0;
            while (eval(read.asked) == 0) {
                if (done == n) {
                    return -2;
                }
                turn();
                done++;
            }
            return done;
        } catch (Fault f) {
            fault = f.kind;
            return -1;
        } catch (Jam j) {
            return -3;
        }
    }

    private static String dialOf(double x, int digits) {
        StringBuilder s = new StringBuilder();
        if (x < 0) {
            s.append('-');
        }
        s.append((long) Math.abs(x));
        if (digits > 0) {
            s.append('.');
            double r = Math.abs(x) % 1.0;
            for (int k = 0; k < digits; k++) {
                r = r * 10;
                s.append((int) r);
                r -= (int) r;
            }
        }
        return s.toString();
    }

    int dial(long bits, int digits) {
        double x = Double.longBitsToDouble(bits);
        if (!Double.isFinite(x) || digits < 0 || digits > 18) {
            return -1;
        }
        dialText = dialOf(x, digits);
        return dialText.length();
    }

    int clock(long bits) {
        double x = Double.longBitsToDouble(bits);
        if (!Double.isFinite(x)) {
            return -1;
        }
        double d = Math.floor(x / 86400.0);
        double s = x % 86400.0;
        if (s < 0) {
            s += 86400.0;
        }
        if (s == 86400.0) {
            s = 0.0;
        }
        int n = (int) s;
        dialText = dialOf(d, 0) + String.format(" %02d:%02d:%02d", n / 3600, n / 60 % 60, n % 60);
        return dialText.length();
    }

    int octet(int k) {
        return k < 0 || k >= dialText.length() ? -1 : dialText.charAt(k);
    }

    long measure(long a, long b) {
        double x = Double.longBitsToDouble(a);
        double y = Double.longBitsToDouble(b);
        return Double.isFinite(x) && Double.isFinite(y) ? bits(gcd(x, y)) : -1;
    }

    private static boolean above(double x) {
        return Double.isFinite(x) && x > 0;
    }

    long together(long a, long b) {
        double x = Double.longBitsToDouble(a);
        double y = Double.longBitsToDouble(b);
        if (!above(x) || !above(y)) {
            return -1;
        }
        double m = x * (y / gcd(x, y));
        return Double.isFinite(m) ? bits(m) : -1;
    }

    long train(long bits, int stages, int low, int high) {
        double t = Double.longBitsToDouble(bits);
        if (!above(t) || stages < 1 || stages > 2 || low < 4 || low > high || high > (long) low + 30 || high > 200) {
            return -1;
        }
        double best = Double.POSITIVE_INFINITY;
        for (int n1 = low; n1 <= high; n1++) {
            for (int m1 = low; m1 <= high; m1++) {
                double v1 = (double) n1 / m1;
                if (stages == 1) {
                    if (Math.abs(v1 - t) < best) {
                        best = Math.abs(v1 - t);
                        wheels = new int[] {n1, m1};
                    }
                    continue;
                }
                for (int n2 = low; n2 <= high; n2++) {
                    for (int m2 = low; m2 <= high; m2++) {
                        double far = Math.abs(v1 * ((double) n2 / m2) - t);
                        if (far < best) {
                            best = far;
                            wheels = new int[] {n1, m1, n2, m2};
                        }
                    }
                }
            }
        }
        return bits(best);
    }

    int wheel(int k) {
        return k < 0 || k >= wheels.length ? 0 : wheels[k];
    }

    int date(long bits, int what) {
        double x = Double.longBitsToDouble(bits);
        if (!Double.isFinite(x) || what < 0 || what > 4 || Math.abs(Math.floor(x)) > 100000000.0) {
            return -1000000000;
        }
        LocalDate d = LocalDate.ofEpochDay((long) Math.floor(x));
        return new int[] {d.getYear(), d.getMonthValue(), d.getDayOfMonth(), d.getDayOfWeek().getValue() - 1,
            (int) ChronoUnit.DAYS.between(LocalDate.of(d.getYear(), 1, 1), d) + 1}[what];
    }

    boolean keep(int place) {
        if (place < 0 || place > 3) {
            return false;
        }
        kept[place] = works.copy();
        keptFor[place] = planNumber;
        return true;
    }

    boolean back(int place) {
        if (place < 0 || place > 3 || kept[place] == null || keptFor[place] != planNumber) {
            return false;
        }
        works = kept[place].copy();
        return true;
    }
}
