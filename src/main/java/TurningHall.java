/**
 * A hall of turning works, as ../shared/DOC.md tells it. Every value is held as its BITS in a long, so
 * that one stack, one row of values and one way of keeping serve all eight sorts.
 */
public final class TurningHall {
    public static final int NONE = -1;

    private static final int TRUTH = 0;
    private static final int BYTE = 1;
    private static final int SHORT = 2;
    private static final int CHAR = 3;
    private static final int INT = 4;
    private static final int LONG = 5;
    private static final int FLOAT = 6;
    private static final int DOUBLE = 7;

    private static final int END = 0;
    private static final int BAD = 1;
    private static final int NAME = 2;
    private static final int NUMBER = 3;

    // The words, in the order of Tape.WORDS: a word's kind is its place in that row.
    private static final int PART = 10;
    private static final int SHOW = 11;
    private static final int CAM = 12;
    private static final int BELL = 13;
    private static final int THEN = 14;
    private static final int WHEN = 15;
    private static final int OLD = 16;
    private static final int STEP = 17;
    private static final int TICKS = 18;
    private static final int FLOOR = 19;
    private static final int CEIL = 20;
    private static final int RINT = 21;
    private static final int ABS = 22;
    private static final int LEAST = 23;
    private static final int MOST = 24;
    private static final int GCD = 25;
    private static final int TRUE = 26;
    private static final int FALSE = 27;
    private static final int FIRST_SORT = 28;
    private static final int LAST_SORT = 35;

    // The signs of one byte, in the order of Tape.SIGNS, then those of two.
    private static final int COLON = 40;
    private static final int SEMICOLON = 41;
    private static final int COMMA = 42;
    private static final int EQUALS = 43;
    private static final int QUESTION = 44;
    private static final int OPEN = 45;
    private static final int CLOSE = 46;
    private static final int OPEN_BRACKET = 47;
    private static final int CLOSE_BRACKET = 48;
    private static final int PLUS = 49;
    private static final int MINUS = 50;
    private static final int TIMES = 51;
    private static final int DIVIDE = 52;
    private static final int REST = 53;
    private static final int NOT = 54;
    private static final int LESS = 55;
    private static final int MORE = 56;
    private static final int LESS_OR_SAME = 57;
    private static final int MORE_OR_SAME = 58;
    private static final int SAME = 59;
    private static final int OTHER = 60;
    private static final int AND = 61;
    private static final int OR = 62;

    // What stands in a formula's code, or open on the reader's stack, and is no token by itself.
    private static final int THING = 70;
    private static final int INDEX = 71;
    private static final int NEGATE = 72;
    private static final int CAST = 73;
    private static final int SKIP_AND = 74;
    private static final int SKIP_OR = 75;
    private static final int IF = 76;
    private static final int ELSE = 77;
    private static final int CHOOSE = 78;
    private static final int GROUP = 79;

    private static final int READING = 1;
    private static final int TOO_MUCH = 2;
    private static final int NAMES = 3;
    private static final int SORTS = 4;

    private static final int MOST_THINGS = 40;
    private static final int MOST_BELLS = 12;
    private static final int MOST_CAMS = 8;
    private static final int MOST_TEETH = 24;
    private static final int MOST_NODES = 500;
    private static final int MOST_TICKS = 500;
    private static final int PLACES = 4;

    private final Tape tape;
    private final Reader reader;
    private final Checker checker;
    private final State state;
    private final Works works;
    private final Desk desk;
    private final State[] kept;
    private Plan current;
    private Plan spare;
    private int latestFault;
    private long latestTold;

    public TurningHall() {
        tape = new Tape();
        reader = new Reader(tape);
        checker = new Checker(tape);
        state = new State();
        works = new Works(state);
        desk = new Desk();
        kept = new State[PLACES];
        current = new Plan();
        spare = new Plan();
    }

    public int feed(int a, int b, int c, int d, int e) {
        if (tape.length > Tape.LIMIT - 20) {
            return NONE;
        }
        tape.append(a);
        tape.append(b);
        tape.append(c);
        tape.append(d);
        tape.append(e);
        return tape.length;
    }

    public int end(int n) {
        if (n < 0 || n > tape.length) {
            return NONE;
        }
        tape.cut(n);
        return n;
    }

    public int plan() {
        int place = examine(false);
        if (place != NONE) {
            return -1 - place;
        }
        Plan read = spare;
        spare = current;
        current = read;
        works.begin(current);
        return current.things;
    }

    public int fault() {
        return latestFault;
    }

    public int count(int what) {
        switch (what) {
            case 0:
                return current.things;
            case 1:
                return current.bells;
            case 2:
                return current.cams;
            case 3:
                return current.nodes;
            case 4:
                return tape.length;
            case 5:
                return state.strikesKept();
            case 6:
                return desk.length;
            case 7:
                return desk.wheels;
            default:
                return NONE;
        }
    }

    public int thing(int i, int what) {
        int slot = current.slotOf(i);
        if (slot == NONE || slot >= Plan.FIRST_CAM) {
            return NONE;
        }
        boolean isBell = slot >= Plan.FIRST_BELL;
        switch (what) {
            case 0:
                return isBell ? NONE : current.sorts[slot];
            case 1:
                return isBell ? NONE : current.parts[slot];
            case 2:
                return current.lengths[slot];
            case 3:
                return state.jams[slot];
            case 4:
                return state.kinds[slot];
            case 5:
                return state.kinds[slot] == 0 ? NONE : state.places[slot];
            case 6:
                return isBell ? state.counts[slot - Plan.FIRST_BELL] : NONE;
            default:
                return NONE;
        }
    }

    public int letter(int i, int k) {
        int slot = current.slotOf(i);
        if (slot == NONE || k < 0 || k >= current.lengths[slot]) {
            return NONE;
        }
        return current.letters[slot * Plan.NAME_LIMIT + k];
    }

    public long value(int i, int ago) {
        if (i < 0 || i >= current.things) {
            return 0;
        }
        return ago == 0 ? state.valueOf(i) : state.past(i, ago);
    }

    public boolean set(int i, long bits) {
        if (i < 0 || i >= current.things || current.parts[i] == 0) {
            return false;
        }
        int sort = current.sorts[i];
        long value = Sorts.taken(bits, sort);
        if (!Sorts.isHeld(value, sort)) {
            return false;
        }
        state.becomes(i, value);
        state.settleOld(i);
        return true;
    }

    public boolean step(long bits) {
        if (!Real.isFinite(bits)) {
            return false;
        }
        state.step = bits;
        return true;
    }

    public long tick(int n) {
        if (n < 0 || n > MOST_TICKS) {
            return NONE;
        }
        for (int k = 0; k < n; k++) {
            works.turn(current);
        }
        return state.ticks;
    }

    public long strike(int k, int what) {
        if (k < 0 || k >= state.strikesKept() || what < 0 || what > 1) {
            return NONE;
        }
        int slot = state.strikeSlot(k);
        return what == 0 ? state.strikeTicks[slot] : state.strikeBells[slot];
    }

    public int ask() {
        int place = examine(true);
        if (place != NONE) {
            return -1 - place;
        }
        if (!works.workOut(spare.code, current, 0, spare.code.size)) {
            return 8 + works.jam;
        }
        latestTold = works.result();
        return spare.gives[0];
    }

    public long told() {
        return latestTold;
    }

    public int await(int n) {
        if (n < 0 || n > MOST_TICKS) {
            tape.cut(0);
            return NONE;
        }
        if (examine(true) != NONE) {
            return NONE;
        }
        if (spare.gives[0] != TRUTH) {
            latestFault = SORTS;
            return NONE;
        }
        for (int done = 0; done <= n; done++) {
            if (!works.workOut(spare.code, current, 0, spare.code.size)) {
                return -3;
            }
            if (works.result() != 0) {
                return done;
            }
            if (done < n) {
                works.turn(current);
            }
        }
        return -2;
    }

    public int dial(long bits, int digits) {
        if (!Real.isFinite(bits) || digits < 0 || digits > 18) {
            return NONE;
        }
        return desk.writeDial(bits, digits);
    }

    public int clock(long bits) {
        return Real.isFinite(bits) ? desk.writeClock(bits) : NONE;
    }

    public int octet(int k) {
        return k < 0 || k >= desk.length ? NONE : desk.text[k];
    }

    public long measure(long a, long b) {
        return Real.isFinite(a) && Real.isFinite(b) ? Real.common(a, b) : NONE;
    }

    public long together(long a, long b) {
        if (!Real.isAboveZero(a) || !Real.isAboveZero(b)) {
            return NONE;
        }
        long rounds = Real.divided(b, Real.common(a, b));
        // An endless number of rounds has no finite meeting, however small a is.
        if (!Real.isFinite(rounds)) {
            return NONE;
        }
        long meeting = Real.times(a, rounds);
        return Real.isFinite(meeting) ? meeting : NONE;
    }

    public long train(long t, int stages, int low, int high) {
        if (!Real.isAboveZero(t) || stages < 1 || stages > 2) {
            return NONE;
        }
        if (low < 4 || low > high || high > 200 || high - low > 30) {
            return NONE;
        }
        return desk.findTrain(t, stages, low, high);
    }

    public int wheel(int k) {
        return k < 0 || k >= desk.wheels ? 0 : desk.teeth[k];
    }

    public int date(long bits, int what) {
        return what < 0 || what > 4 || !Real.isFinite(bits) ? Desk.NO_DATE : Desk.dateOf(bits, what);
    }

    public boolean keep(int place) {
        if (place < 0 || place >= PLACES) {
            return false;
        }
        if (kept[place] == null) {
            kept[place] = new State();
        }
        kept[place].copyFrom(state);
        return true;
    }

    public boolean back(int place) {
        if (place < 0 || place >= PLACES || kept[place] == null) {
            return false;
        }
        if (kept[place].serial != state.serial) {
            return false;
        }
        state.copyFrom(kept[place]);
        return true;
    }

    /** Reads the tape into the spare plan and empties it: the place of the fault, or NONE. */
    private int examine(boolean alone) {
        reader.read(spare, alone);
        latestFault = reader.faultKind;
        int place = reader.faultPlace;
        if (latestFault == 0) {
            checker.check(spare, alone ? current : spare);
            latestFault = checker.faultKind;
            place = checker.faultPlace;
        }
        tape.cut(0);
        return latestFault == 0 ? NONE : place;
    }

    /**
     * The arithmetic of DOUBLEs and FLOATs by whole numbers alone: the language left to this class has no
     * way from BITS to a double and none back. A number that is not 0 is mantissa times 2 to the exponent.
     */
    private static final class Real {
        private static final long SIGN = 0x8000000000000000L;
        private static final long INFINITE = 0x7FF0000000000000L;
        private static final long ONE = 0x3FF0000000000000L;
        private static final long FLOAT_INFINITE = 0x7F800000L;
        private static final int WIDE = 53;
        private static final int NARROW = 24;

        private static long size(long x) {
            return x & ~SIGN;
        }

        private static boolean isFinite(long x) {
            return size(x) < INFINITE;
        }

        private static boolean isFiniteFloat(long f) {
            return (f & 0x7FFFFFFFL) < FLOAT_INFINITE;
        }

        private static boolean isAboveZero(long x) {
            return x > 0 && x < INFINITE;
        }

        private static int bitLength(long m) {
            int bits = 0;
            long left = m;
            for (int half = 32; half > 0; half /= 2) {
                if (left >>> half != 0) {
                    bits += half;
                    left >>>= half;
                }
            }
            return left == 0 ? bits : bits + 1;
        }

        /** 53 bits long for every number but 0, so that small numbers need no ways of their own. */
        private static long mantissa(long x) {
            long m = x & 0xFFFFFFFFFFFFFL;
            if (size(x) > 0xFFFFFFFFFFFFFL) {
                return m | 0x10000000000000L;
            }
            return m == 0 ? 0 : m << (WIDE - bitLength(m));
        }

        private static int exponent(long x) {
            int field = (int) (size(x) >>> 52);
            return field > 0 ? field - 1075 : bitLength(size(x)) - WIDE - 1074;
        }

        /**
         * The BITS, without sign, of m times 2 to the e, rounded to so many bits (an infinite one beyond the
         * end). Where m was cut short it has more than three bits too many, its lowest telling of a rest.
         */
        private static long packed(long m, int e, int precision) {
            if (m <= 0) {
                return 0;
            }
            int least = precision == WIDE ? -1074 : -149;
            int greatest = precision == WIDE ? 971 : 104;
            long infinite = precision == WIDE ? INFINITE : FLOAT_INFINITE;
            int unit = Math.max(e + bitLength(m) - precision, least);
            if (unit > greatest) {
                return infinite;
            }
            long kept = inUnits(m, unit - e);
            // A carry out of the mantissa goes into the exponent by itself, up to the infinite one.
            return ((long) (unit - least) << (precision - 1)) + kept;
        }

        private static long inUnits(long m, int drop) {
            if (drop <= 0) {
                return m << -drop;
            }
            if (drop > 63) {
                return 0;
            }
            long kept = m >>> drop;
            long rest = m - (kept << drop);
            long half = 1L << (drop - 1);
            boolean up = rest > half || rest == half && (kept & 1) == 1;
            return up ? kept + 1 : kept;
        }

        private static long plus(long a, long b) {
            long x = size(a) < size(b) ? b : a;
            long y = size(a) < size(b) ? a : b;
            if (size(y) == 0) {
                return size(x) == 0 ? x & y : x;
            }
            int gap = exponent(x) - exponent(y);
            long big = mantissa(x) << 3;
            long little = mantissa(y) << 3;
            if (gap > 60) {
                little = 1;
            } else {
                long moved = little >>> gap;
                little = moved << gap == little ? moved : moved | 1;
            }
            long sum = (x ^ y) < 0 ? big - little : big + little;
            return sum == 0 ? 0 : packed(sum, exponent(x) - 3, WIDE) | x & SIGN;
        }

        private static long minus(long a, long b) {
            return plus(a, b ^ SIGN);
        }

        private static long times(long a, long b) {
            long sign = (a ^ b) & SIGN;
            long x = mantissa(a);
            long y = mantissa(b);
            long mask = (1L << 27) - 1;
            long low = (x & mask) * (y & mask);
            long middle = (x >>> 27) * (y & mask) + (x & mask) * (y >>> 27) + (low >>> 27);
            long high = ((x >>> 27) * (y >>> 27) << 10) + (middle >>> 17);
            boolean more = (middle & ((1L << 17) - 1)) != 0 || (low & mask) != 0;
            return sign | packed(more ? high | 1 : high, exponent(a) + exponent(b) + 44, WIDE);
        }

        private static long divided(long a, long b) {
            long sign = (a ^ b) & SIGN;
            long y = mantissa(b);
            if (y == 0) {
                return sign;
            }
            long x = mantissa(a);
            long quotient = x / y;
            long rest = x % y;
            for (int k = 0; k < 6; k++) {
                rest <<= 10;
                quotient = quotient << 10 | rest / y;
                rest %= y;
            }
            return sign | packed(rest != 0 ? quotient | 1 : quotient, exponent(a) - exponent(b) - 60, WIDE);
        }

        private static long rest(long a, long b) {
            long y = mantissa(b);
            if (size(a) < size(b) || y == 0) {
                return a;
            }
            long left = mantissa(a) % y;
            int gap = exponent(a) - exponent(b);
            while (gap > 0) {
                int some = Math.min(gap, 10);
                left = (left << some) % y;
                gap -= some;
            }
            return packed(left, exponent(b), WIDE) | a & SIGN;
        }

        private static long common(long a, long b) {
            long x = size(a);
            long y = size(b);
            // Behind the first two rounds both are wholes of 53 bits of one unit, so some 80 rounds are all.
            for (int k = 0; k < 10000 && y != 0; k++) {
                long left = rest(x, y);
                x = y;
                y = left;
            }
            return x;
        }

        /** x taken to a whole as floor, ceil or rint do. */
        private static long whole(long x, int how) {
            if (size(x) == 0 || exponent(x) >= 0) {
                return x;
            }
            int drop = Math.min(-exponent(x), 55);
            long kept = mantissa(x) >>> drop;
            long rest = mantissa(x) - (kept << drop);
            long half = 1L << (drop - 1);
            boolean up;
            if (how == RINT) {
                up = rest > half || rest == half && (kept & 1) == 1;
            } else {
                up = rest != 0 && x < 0 == (how == FLOOR);
            }
            return packed(up ? kept + 1 : kept, 0, WIDE) | x & SIGN;
        }

        /** The part towards 0 as a LONG, beyond the ends the end. */
        private static long toWhole(long x) {
            int e = exponent(x);
            if (e > 10) {
                return x < 0 ? SIGN : ~SIGN;
            }
            long part = 0;
            if (e > -WIDE) {
                part = e >= 0 ? mantissa(x) << e : mantissa(x) >>> -e;
            }
            return x < 0 ? -part : part;
        }

        private static long ofWhole(long n) {
            if (n < 0) {
                return SIGN | (n == SIGN ? packed(1L << 62, 1, WIDE) : packed(-n, 0, WIDE));
            }
            return packed(n, 0, WIDE);
        }

        /** In one rounding: through a DOUBLE a LONG would be rounded twice. */
        private static long floatOfWhole(long n) {
            if (n < 0) {
                return signedFloat(n == SIGN ? packed(1L << 62, 1, NARROW) : packed(-n, 0, NARROW), true);
            }
            return packed(n, 0, NARROW);
        }

        private static long ofFloat(long f) {
            int field = (int) (f >>> 23 & 0xFF);
            long m = f & 0x7FFFFF;
            long wide = field == 0 ? packed(m, -149, WIDE) : packed(m | 0x800000, field - 150, WIDE);
            return f < 0 ? wide | SIGN : wide;
        }

        private static long toFloat(long x) {
            return signedFloat(packed(mantissa(x), exponent(x), NARROW), x < 0);
        }

        private static long signedFloat(long magnitude, boolean below) {
            return below ? (int) (magnitude | 0x80000000L) : magnitude;
        }

        /** x times 2 to the power, rounded once. */
        private static long scaled(long x, int power) {
            return packed(mantissa(x), exponent(x) + power, WIDE) | x & SIGN;
        }
    }

    /** What the sorts are to one another. */
    private static final class Sorts {
        private static int joined(int one, int two) {
            return Math.max(Math.max(one, two), INT);
        }

        private static boolean canJoin(int one, int two) {
            return one != TRUTH && two != TRUTH;
        }

        /** Whether a thing of the sort to may get a value of the sort from. */
        private static boolean comesTo(int from, int to) {
            if (from == to) {
                return true;
            }
            if (from == TRUTH || from > to) {
                return false;
            }
            return to != CHAR;
        }

        private static long become(long bits, int from, int to) {
            if (from == to) {
                return bits;
            }
            if (from <= LONG) {
                if (to == DOUBLE) {
                    return Real.ofWhole(bits);
                }
                return to == FLOAT ? Real.floatOfWhole(bits) : taken(bits, to);
            }
            long wide = from == FLOAT ? Real.ofFloat(bits) : bits;
            if (to == DOUBLE) {
                return wide;
            }
            if (to == FLOAT) {
                return Real.toFloat(wide);
            }
            long part = Real.toWhole(wide);
            return to == LONG ? part : taken(Math.max(-2147483648L, Math.min(part, 2147483647L)), to);
        }

        /** The lowest bits, as many as the sort has. */
        private static long taken(long bits, int sort) {
            switch (sort) {
                case TRUTH:
                    return bits & 1;
                case BYTE:
                    return (byte) bits;
                case SHORT:
                    return (short) bits;
                case CHAR:
                    return (char) bits;
                case INT:
                case FLOAT:
                    return (int) bits;
                default:
                    return bits;
            }
        }

        private static boolean isHeld(long bits, int sort) {
            if (sort == FLOAT) {
                return Real.isFiniteFloat(bits);
            }
            return sort != DOUBLE || Real.isFinite(bits);
        }
    }

    /** The tape, and the token that was found on it last. */
    private static final class Tape {
        private static final int LIMIT = 3000;
        private static final int NAME_LIMIT = 10;
        private static final int DIGITS = 15;
        private static final int POWER = 1100;
        private static final String WORDS =
            "part show cam bell then when old step ticks floor ceil rint abs least most gcd true false truth byte short char int long float double ";
        private static final String SIGNS = ":;,=?()[]+-*/%!<>";

        private final byte[] bytes;
        private int length;
        private int next;
        private int kind;
        private int place;
        private int sort;
        private long number;
        private int behind;
        private int power;

        private Tape() {
            bytes = new byte[LIMIT];
        }

        private void append(int four) {
            for (int shift = 24; shift >= 0 && length < LIMIT; shift -= 8) {
                bytes[length] = (byte) (four >>> shift);
                length++;
            }
        }

        private void cut(int n) {
            length = n;
        }

        private int at(int k) {
            return k < 0 || k >= length ? NONE : bytes[k] & 255;
        }

        private boolean isDigit(int k) {
            return at(k) >= '0' && at(k) <= '9';
        }

        private boolean isLetter(int k) {
            return at(k) >= 'a' && at(k) <= 'z' || at(k) >= 'A' && at(k) <= 'Z';
        }

        private boolean isBlank(int k) {
            return at(k) == 9 || at(k) == 10 || at(k) == 32;
        }

        private void rewind() {
            next = 0;
        }

        private void advance() {
            while (next < length && isBlank(next)) {
                next++;
            }
            place = next;
            if (next >= length) {
                kind = END;
            } else if (isLetter(next)) {
                findWord();
            } else if (isDigit(next)) {
                findNumber();
                if (kind == NUMBER && sort >= FLOAT) {
                    makeReal();
                }
            } else {
                findSign();
            }
        }

        private void findWord() {
            while (next < length && (isLetter(next) || isDigit(next))) {
                next++;
            }
            if (next - place > NAME_LIMIT) {
                kind = BAD;
                place += NAME_LIMIT;
                return;
            }
            kind = NAME;
            int word = PART;
            int start = 0;
            for (int k = 0; k < WORDS.length(); k++) {
                if (WORDS.charAt(k) == ' ') {
                    if (k - start == next - place && isWordAt(start)) {
                        kind = word;
                    }
                    word++;
                    start = k + 1;
                }
            }
        }

        private boolean isWordAt(int start) {
            for (int k = 0; k < next - place; k++) {
                if (start + k >= WORDS.length() || WORDS.charAt(start + k) != at(place + k)) {
                    return false;
                }
            }
            return true;
        }

        private void findSign() {
            int sign = at(place);
            int follower = at(place + 1);
            int found = SIGNS.indexOf((char) sign);
            kind = found < 0 ? BAD : COLON + found;
            next = place + 1;
            int pair = NONE;
            if (follower == '=') {
                pair = sign == '<' ? LESS_OR_SAME : sign == '>' ? MORE_OR_SAME : NONE;
                pair = sign == '=' ? SAME : sign == '!' ? OTHER : pair;
            } else if (follower == sign) {
                pair = sign == '&' ? AND : sign == '|' ? OR : NONE;
            }
            if (pair != NONE) {
                kind = pair;
                next = place + 2;
            }
        }

        /** Of a real it finds the digits alone, as a whole: makeReal() does what may be rounded. */
        private void findNumber() {
            int point = digitsEnd(place);
            int stop = point;
            boolean good = true;
            behind = 0;
            if (at(stop) == '.') {
                stop = digitsEnd(point + 1);
                behind = stop - point - 1;
                good = behind > 0;
            }
            int digits = stop;
            power = 0;
            if (at(stop) == 'p') {
                boolean down = at(stop + 1) == '-';
                int from = down ? stop + 2 : stop + 1;
                stop = digitsEnd(from);
                int size = (int) wholeBetween(from, stop, POWER);
                good = good && size >= 0;
                power = down ? -size : size;
            }
            boolean bare = stop == point;
            boolean isLong = at(stop) == 'l';
            boolean isFloat = at(stop) == 'f';
            next = isLong || isFloat ? stop + 1 : stop;
            if (bare && !isFloat) {
                sort = isLong ? LONG : INT;
                number = wholeBetween(place, point, isLong ? 9223372036854775807L : 2147483647L);
            } else {
                sort = isFloat ? FLOAT : DOUBLE;
                good = good && !isLong && (point - place) + behind <= DIGITS;
                number = wholeBetween(place, digits, 999999999999999L);
            }
            boolean goesOn = isDigit(next) || isLetter(next) || at(next) == '.';
            kind = good && number >= 0 && !goesOn ? NUMBER : BAD;
        }

        private int digitsEnd(int from) {
            int k = from;
            while (k < length && isDigit(k)) {
                k++;
            }
            return k;
        }

        /** The digits as a whole, a point among them passed over: NONE without digits or beyond the limit. */
        private long wholeBetween(int from, int stop, long limit) {
            long whole = from < stop ? 0 : NONE;
            for (int k = from; k < stop && whole >= 0; k++) {
                if (at(k) != '.') {
                    int digit = at(k) - '0';
                    whole = whole > (limit - digit) / 10 ? NONE : whole * 10 + digit;
                }
            }
            return whole;
        }

        private void makeReal() {
            long tens = 1;
            for (int k = 0; k < behind && k < DIGITS; k++) {
                tens *= 10;
            }
            long x = Real.divided(Real.ofWhole(number), Real.ofWhole(tens));
            x = Real.scaled(x, power);
            boolean good = Real.isFinite(x);
            if (good && sort == FLOAT) {
                x = Real.toFloat(x);
                good = Real.isFiniteFloat(x);
            }
            number = x;
            kind = good ? NUMBER : BAD;
        }
    }

    /**
     * Formulas in the order in which they are worked out, parts ahead of their sign. An entry's argument is a
     * number's sort, a name's place in the text (its index, once it is known), a cast's sort, or where to go on.
     */
    private static final class Code {
        // 500 nodes make 833 entries at most: a ? makes three, && and || make two.
        private static final int LIMIT = 900;

        private final int[] ops;
        private final int[] args;
        private final int[] places;
        private final int[] sorts;
        private final long[] numbers;
        private int size;

        private Code() {
            ops = new int[LIMIT];
            args = new int[LIMIT];
            places = new int[LIMIT];
            sorts = new int[LIMIT];
            numbers = new long[LIMIT];
        }

        /** Where the entry stands; NONE when there is no room, which only a plan with too many nodes needs. */
        private int add(int op, int arg, int place, long number) {
            if (size >= LIMIT) {
                return NONE;
            }
            ops[size] = op;
            args[size] = arg;
            places[size] = place;
            numbers[size] = number;
            size++;
            return size - 1;
        }

        private void goOnAt(int entry, int target) {
            if (entry >= 0 && entry < LIMIT) {
                args[entry] = target;
            }
        }

        private void giveSorts(int entry, int packed) {
            if (entry >= 0 && entry < LIMIT) {
                sorts[entry] = packed;
            }
        }

        private static int packSorts(int joined, int one, int two) {
            return joined << 6 | one << 3 | two;
        }
    }

    /** What a text tells: names, sorts, cams and formulas. */
    private static final class Plan {
        private static final int NAME_LIMIT = 10;
        private static final int FIRST_BELL = MOST_THINGS;
        private static final int FIRST_CAM = MOST_THINGS + MOST_BELLS;
        private static final int SLOTS = MOST_THINGS + MOST_BELLS + MOST_CAMS;
        private static final int FORMULAS = 2 * MOST_THINGS + MOST_BELLS;
        private static final int FIRST = 0;
        private static final int NEXT = 1;
        private static final int SHOWN = 2;
        private static final int RINGING = 3;
        private static final int ASKED = 4;

        private final byte[] letters;
        private final int[] lengths;
        private final int[] namePlaces;
        private final int[] sorts;
        private final int[] parts;
        private final long[] teeth;
        private final int[] toothCounts;
        private final int[] froms;
        private final int[] stops;
        private final int[] roles;
        private final int[] owners;
        private final int[] signPlaces;
        private final int[] camsAhead;
        private final int[] gives;
        private final Code code;
        private int things;
        private int bells;
        private int cams;
        private int nodes;
        private int formulas;

        private Plan() {
            letters = new byte[SLOTS * NAME_LIMIT];
            lengths = new int[SLOTS];
            namePlaces = new int[SLOTS];
            sorts = new int[MOST_THINGS];
            parts = new int[MOST_THINGS];
            teeth = new long[MOST_CAMS * MOST_TEETH];
            toothCounts = new int[MOST_CAMS];
            froms = new int[FORMULAS];
            stops = new int[FORMULAS];
            roles = new int[FORMULAS];
            owners = new int[FORMULAS];
            signPlaces = new int[FORMULAS];
            camsAhead = new int[FORMULAS];
            gives = new int[FORMULAS];
            code = new Code();
        }

        private void clear() {
            things = 0;
            bells = 0;
            cams = 0;
            nodes = 0;
            formulas = 0;
            code.size = 0;
        }

        /** The slot of what the calls name by i (things from 0, bells from 100, cams from 200 on), or NONE. */
        private int slotOf(int i) {
            if (i < 0) {
                return NONE;
            }
            if (i < 100) {
                return i < things ? i : NONE;
            }
            if (i < 200) {
                return i - 100 < bells ? FIRST_BELL + i - 100 : NONE;
            }
            return i - 200 < cams ? FIRST_CAM + i - 200 : NONE;
        }

        /** Takes a slot for what the word tells of: false, when there are too many. */
        private boolean tell(int word, Tape tape) {
            if (word == CAM) {
                if (cams >= MOST_CAMS) {
                    return false;
                }
                toothCounts[cams] = 0;
                takeName(FIRST_CAM + cams, tape);
                cams++;
            } else if (word == BELL) {
                if (bells >= MOST_BELLS) {
                    return false;
                }
                takeName(FIRST_BELL + bells, tape);
                bells++;
            } else {
                if (things >= MOST_THINGS) {
                    return false;
                }
                parts[things] = word == PART ? 1 : 0;
                takeName(things, tape);
                things++;
            }
            return true;
        }

        private void takeName(int slot, Tape tape) {
            namePlaces[slot] = tape.place;
            lengths[slot] = Math.min(tape.next - tape.place, NAME_LIMIT);
            for (int k = 0; k < lengths[slot]; k++) {
                letters[slot * NAME_LIMIT + k] = (byte) tape.at(tape.place + k);
            }
        }

        private int sortOf(int thing) {
            return thing >= 0 && thing < things ? sorts[thing] : TRUTH;
        }

        private void giveSort(int sort) {
            if (things > 0) {
                sorts[things - 1] = sort;
            }
        }

        private boolean addTooth(long bits) {
            if (cams == 0 || toothCounts[cams - 1] >= MOST_TEETH) {
                return false;
            }
            teeth[(cams - 1) * MOST_TEETH + toothCounts[cams - 1]] = bits;
            toothCounts[cams - 1]++;
            return true;
        }

        private void beginFormula(int role, int signPlace) {
            if (formulas >= FORMULAS) {
                return;
            }
            froms[formulas] = code.size;
            stops[formulas] = code.size;
            roles[formulas] = role;
            owners[formulas] = role == RINGING ? bells - 1 : things - 1;
            signPlaces[formulas] = signPlace;
            camsAhead[formulas] = cams;
            formulas++;
        }

        private void endFormula() {
            if (formulas > 0) {
                stops[formulas - 1] = code.size;
            }
        }

        private boolean isTold(int slot) {
            if (slot >= FIRST_CAM) {
                return slot - FIRST_CAM < cams;
            }
            return slot >= FIRST_BELL ? slot - FIRST_BELL < bells : slot < things;
        }

        /** Whether the text has the name of this slot at the place. */
        private boolean hasNameAt(int slot, Tape tape, int place) {
            for (int k = 0; k < lengths[slot]; k++) {
                if (tape.at(place + k) != letters[slot * NAME_LIMIT + k]) {
                    return false;
                }
            }
            int behind = place + lengths[slot];
            return !tape.isLetter(behind) && !tape.isDigit(behind);
        }

        private int findName(Tape tape, int place, int fromSlot, int number) {
            for (int k = 0; k < number; k++) {
                if (hasNameAt(fromSlot + k, tape, place)) {
                    return k;
                }
            }
            return NONE;
        }
    }

    /**
     * Reads a plan, or one E alone, token by token. What is open stands on a stack of its own, so that deep
     * formulas need no deep calls. Too much of something is only noted: a fault of reading goes ahead of it.
     */
    private static final class Reader {
        private static final int BROKEN = 0;
        private static final int DONE = 1;
        private static final int BEGIN = 2;
        private static final int NAMING = 3;
        private static final int COLON_DUE = 4;
        private static final int SORT_DUE = 5;
        private static final int EQUALS_DUE = 6;
        private static final int WHEN_DUE = 7;
        private static final int CAM_EQUALS_DUE = 8;
        private static final int TOOTH = 9;
        private static final int TOOTH_BARE = 10;
        private static final int TOOTH_DONE = 11;
        private static final int OPERAND = 12;
        private static final int OPERATOR = 13;
        private static final int NAMED = 14;
        private static final int OPENED = 15;
        private static final int CAST_CLOSING = 16;
        private static final int CALLED = 17;
        private static final int OLD_OPENING = 18;
        private static final int OLD_NAMING = 19;
        private static final int OLD_CLOSING = 20;
        private static final int DEEPEST = 40;
        // Six ranks of signs for each of the 41 depths, and what is open itself.
        private static final int STACK = 320;

        private final Tape tape;
        private final int[] signs;
        private final int[] signPlaces;
        private final int[] notes;
        private int top;
        private int depth;
        private int state;
        private Plan plan;
        private int begun;
        private int role;
        private int heldWord;
        private int heldPlace;
        private boolean turned;
        private int tooMuch;
        private int faultKind;
        private int faultPlace;

        private Reader(Tape source) {
            tape = source;
            signs = new int[STACK];
            signPlaces = new int[STACK];
            notes = new int[STACK];
        }

        private void read(Plan into, boolean alone) {
            plan = into;
            plan.clear();
            tape.rewind();
            top = 0;
            depth = 0;
            tooMuch = NONE;
            state = alone ? beginFormula(Plan.ASKED) : BEGIN;
            for (int k = 0; k <= Tape.LIMIT && state > DONE; k++) {
                tape.advance();
                settle();
                if (state == OPERAND) {
                    state = operand();
                } else if (state == OPERATOR) {
                    state = operator();
                } else if (state > OPERATOR) {
                    state = bracketed();
                } else if (state >= CAM_EQUALS_DUE) {
                    state = cam();
                } else {
                    state = telling();
                }
            }
            faultKind = tooMuch == NONE ? 0 : TOO_MUCH;
            faultPlace = tooMuch;
            if (state != DONE) {
                faultKind = READING;
                faultPlace = tape.place;
            }
        }

        /** A NAME is a thing, and a ( no cast's, only by the token behind it. */
        private void settle() {
            if (state == NAMED && tape.kind != OPEN_BRACKET) {
                plan.code.add(THING, heldPlace, heldPlace, 0);
                state = finished();
            } else if (state == OPENED && !isSort(tape.kind)) {
                push(GROUP, heldPlace, 0);
                state = OPERAND;
            }
        }

        private int telling() {
            int kind = tape.kind;
            switch (state) {
                case BEGIN:
                    begun = kind;
                    if (kind == END) {
                        return DONE;
                    }
                    return kind >= PART && kind <= BELL ? NAMING : BROKEN;
                case NAMING:
                    return kind == NAME ? named() : BROKEN;
                case COLON_DUE:
                    return kind == COLON ? SORT_DUE : BROKEN;
                case SORT_DUE:
                    if (!isSort(kind)) {
                        return BROKEN;
                    }
                    plan.giveSort(kind - FIRST_SORT);
                    return EQUALS_DUE;
                case EQUALS_DUE:
                    return kind == EQUALS ? beginFormula(begun == PART ? Plan.FIRST : Plan.SHOWN) : BROKEN;
                default:
                    return kind == WHEN ? beginFormula(Plan.RINGING) : BROKEN;
            }
        }

        private int named() {
            if (!plan.tell(begun, tape)) {
                noteTooMuch(tape.place);
            }
            if (begun == CAM) {
                return CAM_EQUALS_DUE;
            }
            return begun == BELL ? WHEN_DUE : COLON_DUE;
        }

        private int cam() {
            int kind = tape.kind;
            if (state == CAM_EQUALS_DUE) {
                return kind == EQUALS ? TOOTH : BROKEN;
            }
            if (state == TOOTH_DONE) {
                if (kind == SEMICOLON) {
                    return BEGIN;
                }
                return kind == COMMA ? TOOTH : BROKEN;
            }
            turned = state == TOOTH_BARE;
            if (kind == MINUS && !turned) {
                return TOOTH_BARE;
            }
            if (kind != NUMBER) {
                return BROKEN;
            }
            long tooth = Sorts.become(tape.number, tape.sort, DOUBLE);
            if (!plan.addTooth(turned ? tooth ^ Real.SIGN : tooth)) {
                noteTooMuch(tape.place);
            }
            return TOOTH_DONE;
        }

        private int operand() {
            int kind = tape.kind;
            if (kind >= FLOOR && kind <= GCD) {
                return held(CALLED);
            }
            switch (kind) {
                case NUMBER:
                    return leaf(NUMBER, tape.sort, tape.number);
                case TRUE:
                    return leaf(NUMBER, TRUTH, 1);
                case FALSE:
                    return leaf(NUMBER, TRUTH, 0);
                case TICKS:
                case STEP:
                    return leaf(kind, 0, 0);
                case NAME:
                    return held(NAMED);
                case OLD:
                    return held(OLD_OPENING);
                case MINUS:
                    return prefix(NEGATE);
                case NOT:
                    return prefix(NOT);
                case OPEN:
                    heldPlace = tape.place;
                    return deeper(OPENED);
                default:
                    return BROKEN;
            }
        }

        private int leaf(int op, int arg, long number) {
            node(tape.place);
            plan.code.add(op, arg, tape.place, number);
            return finished();
        }

        private int held(int following) {
            node(tape.place);
            heldWord = tape.kind;
            heldPlace = tape.place;
            return following;
        }

        private int prefix(int op) {
            node(tape.place);
            push(op, tape.place, 0);
            return deeper(OPERAND);
        }

        private int deeper(int following) {
            if (depth >= DEEPEST) {
                return BROKEN;
            }
            depth++;
            return following;
        }

        /** The tokens that follow a held NAME, (, function word or old. */
        private int bracketed() {
            int kind = tape.kind;
            switch (state) {
                case NAMED:
                    push(INDEX, tape.place, heldPlace);
                    return deeper(OPERAND);
                case OPENED:
                    node(heldPlace);
                    heldWord = kind - FIRST_SORT;
                    return CAST_CLOSING;
                case CAST_CLOSING:
                    push(CAST, heldPlace, heldWord);
                    return kind == CLOSE ? OPERAND : BROKEN;
                case CALLED:
                    push(heldWord, heldPlace, 0);
                    return kind == OPEN ? deeper(OPERAND) : BROKEN;
                case OLD_OPENING:
                    return kind == OPEN ? deeper(OLD_NAMING) : BROKEN;
                case OLD_NAMING:
                    plan.code.add(OLD, tape.place, tape.place, 0);
                    return kind == NAME ? OLD_CLOSING : BROKEN;
                default:
                    depth--;
                    return kind == CLOSE ? finished() : BROKEN;
            }
        }

        /** Behind an operand: what is ahead of it reaches no farther. */
        private int finished() {
            while (top > 0 && isPrefix(signs[top - 1])) {
                top--;
                depth--;
                plan.code.add(signs[top], notes[top], signPlaces[top], 0);
            }
            return OPERATOR;
        }

        private int operator() {
            int kind = tape.kind;
            if (rank(kind) > 0) {
                return binary(kind, rank(kind));
            }
            reduce(1);
            if (kind == QUESTION) {
                node(tape.place);
                push(IF, tape.place, plan.code.add(IF, 0, tape.place, 0));
                return deeper(OPERAND);
            }
            closeChoices();
            switch (kind) {
                case COLON:
                    return otherChoice();
                case CLOSE:
                    return closeRound();
                case CLOSE_BRACKET:
                    return closeIndex();
                case COMMA:
                    return secondPart();
                default:
                    return endFormula();
            }
        }

        private int binary(int kind, int rank) {
            // Two comparisons of one rank don't follow one another: the first is not closed by the second.
            boolean single = rank == 3 || rank == 4;
            reduce(single ? rank + 1 : rank);
            if (single && top > 0 && rank(signs[top - 1]) == rank) {
                return BROKEN;
            }
            node(tape.place);
            int skip = NONE;
            if (kind == AND || kind == OR) {
                skip = plan.code.add(kind == AND ? SKIP_AND : SKIP_OR, 0, tape.place, 0);
            }
            push(kind, tape.place, skip);
            return OPERAND;
        }

        /** Closes the signs of two parts of this rank or a higher one that are open on top. */
        private void reduce(int rank) {
            while (top > 0 && rank(signs[top - 1]) >= rank) {
                top--;
                plan.code.add(signs[top], 0, signPlaces[top], 0);
                plan.code.goOnAt(notes[top], plan.code.size);
            }
        }

        private void closeChoices() {
            while (top > 0 && signs[top - 1] == ELSE) {
                top--;
                depth--;
                plan.code.add(CHOOSE, notes[top], signPlaces[top], 0);
                plan.code.goOnAt(notes[top], plan.code.size);
            }
        }

        private int otherChoice() {
            if (top == 0 || signs[top - 1] != IF) {
                return BROKEN;
            }
            int entry = plan.code.add(ELSE, 0, signPlaces[top - 1], 0);
            plan.code.goOnAt(notes[top - 1], plan.code.size);
            signs[top - 1] = ELSE;
            notes[top - 1] = entry;
            return OPERAND;
        }

        private int closeRound() {
            int open = top == 0 ? NONE : signs[top - 1];
            boolean isFunction = open >= FLOOR && open <= GCD;
            if (open != GROUP && !isFunction) {
                return BROKEN;
            }
            boolean secondDue = open >= LEAST && open <= GCD && notes[top - 1] == 0;
            if (secondDue) {
                return BROKEN;
            }
            top--;
            depth--;
            if (isFunction) {
                plan.code.add(open, 0, signPlaces[top], 0);
            }
            return finished();
        }

        private int closeIndex() {
            if (top == 0 || signs[top - 1] != INDEX) {
                return BROKEN;
            }
            top--;
            depth--;
            plan.code.add(INDEX, notes[top], signPlaces[top], 0);
            return finished();
        }

        private int secondPart() {
            int open = top == 0 ? NONE : signs[top - 1];
            if (open < LEAST || open > GCD || notes[top - 1] != 0) {
                return BROKEN;
            }
            notes[top - 1] = 1;
            return OPERAND;
        }

        private int beginFormula(int as) {
            role = as;
            plan.beginFormula(as, tape.place);
            return OPERAND;
        }

        private int endFormula() {
            if (top > 0) {
                return BROKEN;
            }
            plan.endFormula();
            if (role == Plan.FIRST) {
                return tape.kind == THEN ? beginFormula(Plan.NEXT) : BROKEN;
            }
            if (role == Plan.ASKED) {
                return tape.kind == END ? DONE : BROKEN;
            }
            return tape.kind == SEMICOLON ? BEGIN : BROKEN;
        }

        private void push(int sign, int place, int note) {
            if (top < STACK) {
                signs[top] = sign;
                signPlaces[top] = place;
                notes[top] = note;
                top++;
            }
        }

        private void node(int place) {
            plan.nodes++;
            if (plan.nodes > MOST_NODES) {
                noteTooMuch(place);
            }
        }

        private void noteTooMuch(int place) {
            if (tooMuch == NONE) {
                tooMuch = place;
            }
        }

        private static boolean isSort(int kind) {
            return kind >= FIRST_SORT && kind <= LAST_SORT;
        }

        private static boolean isPrefix(int sign) {
            return sign == NEGATE || sign == NOT || sign == CAST;
        }

        private static int rank(int sign) {
            switch (sign) {
                case OR:
                    return 1;
                case AND:
                    return 2;
                case SAME:
                case OTHER:
                    return 3;
                case LESS:
                case MORE:
                case LESS_OR_SAME:
                case MORE_OR_SAME:
                    return 4;
                case PLUS:
                case MINUS:
                    return 5;
                case TIMES:
                case DIVIDE:
                case REST:
                    return 6;
                default:
                    return 0;
            }
        }
    }

    /** Looks up the names of what was read, then works its sorts out. */
    private static final class Checker {
        private static final int STACK = 512;

        private final Tape tape;
        private final int[] stack;
        private int top;
        private int faultKind;
        private int faultPlace;

        private Checker(Tape source) {
            tape = source;
            stack = new int[STACK];
        }

        /** The names told are those of the plan that was read, or for an E that is asked those of the current one. */
        private void check(Plan read, Plan names) {
            faultKind = 0;
            faultPlace = NONE;
            findTwins(read);
            for (int f = 0; f < read.formulas; f++) {
                findUnknown(read, names, f);
            }
            for (int f = 0; f < read.formulas && faultKind == 0; f++) {
                findMisfit(read, names, f);
            }
        }

        private void noteName(int place) {
            if (faultKind == 0 || place < faultPlace) {
                faultKind = NAMES;
                faultPlace = place;
            }
        }

        private void noteSort(int place) {
            faultKind = SORTS;
            faultPlace = place;
        }

        private void findTwins(Plan read) {
            for (int a = 0; a < Plan.SLOTS; a++) {
                for (int b = 0; b < Plan.SLOTS && read.isTold(a); b++) {
                    boolean behind = read.isTold(b) && read.namePlaces[a] < read.namePlaces[b];
                    if (behind && read.hasNameAt(a, tape, read.namePlaces[b])) {
                        noteName(read.namePlaces[b]);
                    }
                }
            }
        }

        private void findUnknown(Plan read, Plan names, int f) {
            Code code = read.code;
            boolean aheadOnly = read.roles[f] == Plan.FIRST || read.roles[f] == Plan.SHOWN;
            int things = aheadOnly ? read.owners[f] : names.things;
            int cams = aheadOnly ? read.camsAhead[f] : names.cams;
            for (int k = read.froms[f]; k < read.stops[f]; k++) {
                int op = code.ops[k];
                if (op == THING || op == OLD || op == INDEX) {
                    int from = op == INDEX ? Plan.FIRST_CAM : 0;
                    int found = names.findName(tape, code.args[k], from, op == INDEX ? cams : things);
                    if (found == NONE) {
                        noteName(code.args[k]);
                    }
                    code.args[k] = found;
                }
            }
        }

        private void findMisfit(Plan read, Plan names, int f) {
            top = 0;
            for (int k = read.froms[f]; k < read.stops[f]; k++) {
                if (!fits(read.code, k, names)) {
                    noteSort(read.code.places[k]);
                    return;
                }
            }
            int given = pop();
            read.gives[f] = given;
            int role = read.roles[f];
            boolean good = true;
            if (role == Plan.RINGING) {
                good = given == TRUTH;
            } else if (role != Plan.ASKED) {
                good = Sorts.comesTo(given, read.sortOf(read.owners[f]));
            }
            if (!good) {
                noteSort(read.signPlaces[f]);
            }
        }

        private boolean fits(Code code, int k, Plan names) {
            switch (code.ops[k]) {
                case NUMBER:
                    return push(code.args[k]);
                case TICKS:
                    return push(LONG);
                case STEP:
                    return push(DOUBLE);
                case THING:
                case OLD:
                    return push(names.sortOf(code.args[k]));
                case INDEX:
                    int index = pop();
                    return index >= BYTE && index <= INT && push(DOUBLE);
                case SKIP_AND:
                case SKIP_OR:
                case IF:
                case ELSE:
                    return true;
                case CHOOSE:
                    return choiceFits(code, k);
                case NEGATE:
                case NOT:
                case CAST:
                case FLOOR:
                case CEIL:
                case RINT:
                case ABS:
                    return oneFits(code, k);
                default:
                    return twoFit(code, k);
            }
        }

        private boolean oneFits(Code code, int k) {
            int op = code.ops[k];
            int one = pop();
            int given = DOUBLE;
            boolean good = one != TRUTH;
            if (op == NOT) {
                given = TRUTH;
                good = one == TRUTH;
            } else if (op == NEGATE) {
                given = Math.max(one, INT);
            } else if (op == CAST) {
                given = code.args[k];
                good = (one == TRUTH) == (given == TRUTH);
            }
            code.sorts[k] = Code.packSorts(given, one, one);
            return good && push(given);
        }

        private boolean twoFit(Code code, int k) {
            int op = code.ops[k];
            int two = pop();
            int one = pop();
            boolean truths = one == TRUTH && two == TRUTH;
            int joined = truths ? TRUTH : op == GCD ? DOUBLE : Sorts.joined(one, two);
            code.sorts[k] = Code.packSorts(joined, one, two);
            if (op == AND || op == OR) {
                return truths && push(TRUTH);
            }
            boolean equality = op == SAME || op == OTHER;
            boolean good = Sorts.canJoin(one, two) || equality && truths;
            return good && push(op >= LESS && op <= OTHER ? TRUTH : joined);
        }

        private boolean choiceFits(Code code, int k) {
            int two = pop();
            int one = pop();
            int asked = pop();
            boolean truths = one == TRUTH && two == TRUTH;
            int joined = truths ? TRUTH : Sorts.joined(one, two);
            code.sorts[k] = Code.packSorts(joined, one, two);
            code.giveSorts(code.args[k], code.sorts[k]);
            boolean good = asked == TRUTH && (truths || Sorts.canJoin(one, two));
            return good && push(joined);
        }

        private boolean push(int sort) {
            if (top >= STACK) {
                return false;
            }
            stack[top] = sort;
            top++;
            return true;
        }

        private int pop() {
            if (top == 0) {
                return TRUTH;
            }
            top--;
            return stack[top];
        }
    }

    /** All that things, bells, ticks, strikes, pasts are, and STEP: what keep() keeps. */
    private static final class State {
        private static final int PASTS = 31;
        private static final int STRIKES = 64;

        private final long[] values;
        private final long[] olds;
        private final long[] pasts;
        private final int[] jams;
        private final int[] kinds;
        private final int[] places;
        private final int[] counts;
        private final long[] strikeTicks;
        private final int[] strikeBells;
        private long struck;
        private long ticks;
        private long step;
        private int serial;

        private State() {
            values = new long[MOST_THINGS];
            olds = new long[MOST_THINGS];
            pasts = new long[PASTS * MOST_THINGS];
            jams = new int[Plan.FIRST_CAM];
            kinds = new int[Plan.FIRST_CAM];
            places = new int[Plan.FIRST_CAM];
            counts = new int[MOST_BELLS];
            strikeTicks = new long[STRIKES];
            strikeBells = new int[STRIKES];
            step = Real.ONE;
        }

        private void copyFrom(State other) {
            System.arraycopy(other.values, 0, values, 0, values.length);
            System.arraycopy(other.olds, 0, olds, 0, olds.length);
            System.arraycopy(other.pasts, 0, pasts, 0, pasts.length);
            System.arraycopy(other.jams, 0, jams, 0, jams.length);
            System.arraycopy(other.kinds, 0, kinds, 0, kinds.length);
            System.arraycopy(other.places, 0, places, 0, places.length);
            System.arraycopy(other.counts, 0, counts, 0, counts.length);
            System.arraycopy(other.strikeTicks, 0, strikeTicks, 0, strikeTicks.length);
            System.arraycopy(other.strikeBells, 0, strikeBells, 0, strikeBells.length);
            struck = other.struck;
            ticks = other.ticks;
            step = other.step;
            serial = other.serial;
        }

        /** Ready for a new plan; STEP stays. The serial tells what was kept for another plan. */
        private void renew() {
            serial++;
            ticks = 0;
            struck = 0;
            for (int k = 0; k < values.length; k++) {
                values[k] = 0;
                olds[k] = 0;
            }
            for (int k = 0; k < jams.length; k++) {
                jams[k] = 0;
                kinds[k] = 0;
                places[k] = 0;
            }
            for (int k = 0; k < counts.length; k++) {
                counts[k] = 0;
            }
        }

        private void goOn() {
            ticks++;
            int row = (int) (ticks % PASTS) * MOST_THINGS;
            System.arraycopy(values, 0, pasts, row, MOST_THINGS);
            System.arraycopy(values, 0, olds, 0, MOST_THINGS);
        }

        private long valueOf(int i) {
            return i >= 0 && i < MOST_THINGS ? values[i] : 0;
        }

        private long oldOf(int i) {
            return i >= 0 && i < MOST_THINGS ? olds[i] : 0;
        }

        private void becomes(int i, long bits) {
            if (i >= 0 && i < MOST_THINGS) {
                values[i] = bits;
            }
        }

        /** OLD is what the thing is now. */
        private void settleOld(int i) {
            if (i >= 0 && i < MOST_THINGS) {
                olds[i] = values[i];
            }
        }

        private long past(int i, int ago) {
            if (i < 0 || i >= MOST_THINGS || ago < 1 || ago > PASTS || ago > ticks) {
                return 0;
            }
            return pasts[(int) ((ticks - ago + 1) % PASTS) * MOST_THINGS + i];
        }

        private int strikesKept() {
            return (int) Math.min(struck, STRIKES);
        }

        private int strikeSlot(int ago) {
            return (int) ((struck - 1 - ago) % STRIKES);
        }

        private void addStrike(int bell) {
            if (bell < 0 || bell >= MOST_BELLS) {
                return;
            }
            strikeTicks[(int) (struck % STRIKES)] = ticks;
            strikeBells[(int) (struck % STRIKES)] = bell;
            struck++;
            counts[bell] = oneMore(counts[bell]);
        }

        private void addJam(int slot, int kind, int place) {
            if (slot < 0 || slot >= Plan.FIRST_CAM) {
                return;
            }
            jams[slot] = oneMore(jams[slot]);
            kinds[slot] = kind;
            places[slot] = place;
        }

        private static int oneMore(int number) {
            return number == 2147483647 ? number : number + 1;
        }
    }

    /** Works formulas out, and with them begins and turns a plan. */
    private static final class Works {
        private static final int STACK = 512;

        private final State state;
        private final long[] stack;
        private int top;
        private int jam;
        private int jamPlace;

        private Works(State held) {
            state = held;
            stack = new long[STACK];
        }

        private void begin(Plan plan) {
            state.renew();
            for (int f = 0; f < plan.formulas; f++) {
                if (plan.roles[f] == Plan.FIRST || plan.roles[f] == Plan.SHOWN) {
                    boolean good = workOut(plan.code, plan, plan.froms[f], plan.stops[f]);
                    renewThing(plan, f, good);
                    state.settleOld(plan.owners[f]);
                }
            }
        }

        private void turn(Plan plan) {
            state.goOn();
            for (int f = 0; f < plan.formulas; f++) {
                if (plan.roles[f] != Plan.FIRST) {
                    boolean good = workOut(plan.code, plan, plan.froms[f], plan.stops[f]);
                    if (plan.roles[f] == Plan.RINGING) {
                        ring(plan.owners[f], good);
                    } else {
                        renewThing(plan, f, good);
                    }
                }
            }
        }

        private void renewThing(Plan plan, int f, boolean good) {
            int owner = plan.owners[f];
            if (good) {
                state.becomes(owner, Sorts.become(result(), plan.gives[f], plan.sortOf(owner)));
            } else {
                state.addJam(owner, jam, jamPlace);
            }
        }

        private void ring(int bell, boolean good) {
            if (!good) {
                state.addJam(Plan.FIRST_BELL + bell, jam, jamPlace);
            } else if (result() != 0) {
                state.addStrike(bell);
            }
        }

        private long result() {
            return stack[0];
        }

        /** Works out the entries from .. stop - 1, with the cams of the plan: false, when they jam. */
        private boolean workOut(Code code, Plan plan, int from, int stop) {
            top = 0;
            jam = 0;
            for (int k = from; k < stop && jam == 0; k++) {
                int op = code.ops[k];
                switch (op) {
                    case NUMBER:
                        push(code.numbers[k]);
                        break;
                    case TICKS:
                        push(state.ticks);
                        break;
                    case STEP:
                        push(state.step);
                        break;
                    case THING:
                        push(state.valueOf(code.args[k]));
                        break;
                    case OLD:
                        push(state.oldOf(code.args[k]));
                        break;
                    case INDEX:
                        push(tooth(plan, code.args[k], pop()));
                        break;
                    case NEGATE:
                    case NOT:
                    case CAST:
                    case FLOOR:
                    case CEIL:
                    case RINT:
                    case ABS:
                        push(one(op, code.sorts[k], pop()));
                        break;
                    case AND:
                    case OR:
                        // What the right part gave stands already.
                        break;
                    case SKIP_AND:
                    case SKIP_OR:
                    case IF:
                    case ELSE:
                    case CHOOSE:
                        k += Math.max(skipped(code, k), 0);
                        break;
                    default:
                        long right = pop();
                        push(two(op, code.sorts[k], pop(), right));
                }
                if (jam != 0) {
                    jamPlace = code.places[k];
                }
            }
            return jam == 0;
        }

        /** How many of the entries that follow are passed over. */
        private int skipped(Code code, int k) {
            int op = code.ops[k];
            int joined = code.sorts[k] >> 6;
            long value = pop();
            if (op == CHOOSE) {
                push(Sorts.become(value, code.sorts[k] & 7, joined));
                return 0;
            }
            boolean skip = true;
            if (op == ELSE) {
                push(Sorts.become(value, code.sorts[k] >> 3 & 7, joined));
            } else if (op == IF) {
                skip = value == 0;
            } else {
                skip = (op == SKIP_OR) == (value != 0);
                if (skip) {
                    push(value);
                }
            }
            return skip ? code.args[k] - k - 1 : 0;
        }

        private long tooth(Plan plan, int cam, long index) {
            if (cam < 0 || cam >= plan.cams || index < 0 || index >= plan.toothCounts[cam]) {
                jam = 4;
                return 0;
            }
            return plan.teeth[cam * MOST_TEETH + (int) index];
        }

        private long one(int op, int sorts, long value) {
            int given = sorts >> 6;
            if (op == NOT) {
                return 1 - value;
            }
            long x = Sorts.become(value, sorts & 7, given);
            if (op == NEGATE) {
                return negated(x, given);
            }
            if (op == CAST) {
                if (!Sorts.isHeld(x, given)) {
                    jam = 3;
                }
                return x;
            }
            return op == ABS ? Real.size(x) : Real.whole(x, op);
        }

        private static long negated(long x, int sort) {
            if (sort == DOUBLE) {
                return x ^ Real.SIGN;
            }
            return sort == FLOAT ? (int) x ^ 0x80000000 : Sorts.taken(-x, sort);
        }

        private long two(int op, int sorts, long left, long right) {
            int joined = sorts >> 6;
            long a = Sorts.become(left, sorts >> 3 & 7, joined);
            long b = Sorts.become(right, sorts & 7, joined);
            if (op >= LESS && op <= OTHER) {
                return compares(op, order(a, joined), order(b, joined)) ? 1 : 0;
            }
            if (op == LEAST || op == MOST) {
                boolean below = fullOrder(a, joined) < fullOrder(b, joined);
                return below == (op == LEAST) ? a : b;
            }
            if (op == GCD) {
                return Real.common(a, b);
            }
            return joined <= LONG ? wholes(op, a, b, joined) : reals(op, a, b, joined);
        }

        /** Wholes that stand in the order of the values; -0 is 0. */
        private static long order(long x, int sort) {
            return sort >= FLOAT && x < 0 ? -sizeOf(x, sort) : x;
        }

        /** The same with -0 below 0. */
        private static long fullOrder(long x, int sort) {
            return sort >= FLOAT && x < 0 ? ~sizeOf(x, sort) : x;
        }

        private static long sizeOf(long x, int sort) {
            return sort == FLOAT ? x & 0x7FFFFFFFL : Real.size(x);
        }

        private static boolean compares(int op, long a, long b) {
            switch (op) {
                case LESS:
                    return a < b;
                case MORE:
                    return a > b;
                case LESS_OR_SAME:
                    return a <= b;
                case MORE_OR_SAME:
                    return a >= b;
                case SAME:
                    return a == b;
                default:
                    return a != b;
            }
        }

        private long wholes(int op, long a, long b, int sort) {
            if (b == 0 && (op == DIVIDE || op == REST)) {
                jam = 1;
                return 0;
            }
            long result;
            if (op == PLUS) {
                result = a + b;
            } else if (op == MINUS) {
                result = a - b;
            } else if (op == TIMES) {
                result = a * b;
            } else if (b == 0) {
                result = 0;
            } else {
                result = op == DIVIDE ? a / b : a % b;
            }
            return Sorts.taken(result, sort);
        }

        /** FLOATs as DOUBLEs: those have so many bits more that the second rounding changes nothing. */
        private long reals(int op, long a, long b, int sort) {
            if (sizeOf(b, sort) == 0 && (op == DIVIDE || op == REST)) {
                jam = 2;
                return 0;
            }
            long x = sort == FLOAT ? Real.ofFloat(a) : a;
            long y = sort == FLOAT ? Real.ofFloat(b) : b;
            long result;
            if (op == PLUS) {
                result = Real.plus(x, y);
            } else if (op == MINUS) {
                result = Real.plus(x, y ^ Real.SIGN);
            } else if (op == TIMES) {
                result = Real.times(x, y);
            } else {
                result = op == DIVIDE ? Real.divided(x, y) : Real.rest(x, y);
            }
            if (sort == FLOAT) {
                result = Real.toFloat(result);
            }
            if (!Sorts.isHeld(result, sort)) {
                jam = 3;
            }
            return result;
        }

        private void push(long value) {
            if (top < STACK) {
                stack[top] = value;
                top++;
            }
        }

        private long pop() {
            if (top == 0) {
                return 0;
            }
            top--;
            return stack[top];
        }
    }

    /** TEXT, trains and dates. */
    private static final class Desk {
        private static final int NO_DATE = -1000000000;
        private static final int TEXT_LIMIT = 64;
        private static final int PAIRS = 961;
        private static final long TEN = 0x4024000000000000L;
        private static final long DAY = 0x40F5180000000000L;

        private final byte[] text;
        private final int[] teeth;
        private final long[] ratios;
        private final long[] sorted;
        private int length;
        private int wheels;

        private Desk() {
            text = new byte[TEXT_LIMIT];
            teeth = new int[4];
            ratios = new long[PAIRS];
            sorted = new long[PAIRS];
        }

        private int writeDial(long x, int digits) {
            length = 0;
            writeWhole(x);
            if (digits > 0) {
                write('.');
            }
            long left = Real.rest(Real.size(x), Real.ONE);
            for (int k = 0; k < digits; k++) {
                left = Real.times(left, TEN);
                long digit = Real.toWhole(left);
                write('0' + (int) digit);
                left = Real.minus(left, Real.ofWhole(digit));
            }
            return length;
        }

        private int writeClock(long x) {
            length = 0;
            writeWhole(Real.whole(Real.divided(x, DAY), FLOOR));
            write(' ');
            long left = Real.rest(x, DAY);
            if (left < 0 && Real.size(left) != 0) {
                left = Real.plus(left, DAY);
            }
            int seconds = left == DAY ? 0 : (int) Real.toWhole(left);
            writePair(seconds / 3600);
            write(':');
            writePair(seconds / 60 % 60);
            write(':');
            writePair(seconds % 60);
            return length;
        }

        private void writePair(int number) {
            write('0' + number / 10);
            write('0' + number % 10);
        }

        /** The part towards 0, with - if x is below 0, even where that part is 0. */
        private void writeWhole(long x) {
            if (x < 0 && Real.size(x) != 0) {
                write('-');
            }
            long left = Real.toWhole(Real.size(x));
            int digits = 1;
            long unit = 1;
            while (digits < 19 && left / 10 >= unit) {
                unit *= 10;
                digits++;
            }
            for (int k = 0; k < digits; k++) {
                write('0' + (int) (left / unit % 10));
                unit = Math.max(unit / 10, 1);
            }
        }

        private void write(int letter) {
            if (length < TEXT_LIMIT) {
                text[length] = (byte) letter;
                length++;
            }
        }

        private long findTrain(long t, int stages, int low, int high) {
            int pairs = fillRatios(low, high);
            if (stages == 2) {
                sortRatios(pairs);
            }
            int first = 0;
            long best = Real.INFINITE;
            for (int k = 0; k < pairs; k++) {
                long far = stages == 1 ? howFar(ratios[k], t) : howFarWithBest(ratios[k], t, pairs);
                if (far < best) {
                    best = far;
                    first = k;
                }
            }
            takePair(0, first, low, high);
            if (stages == 2) {
                takePair(2, firstAsFar(ratios[first], t, pairs, best), low, high);
            }
            wheels = 2 * stages;
            return best;
        }

        private int fillRatios(int low, int high) {
            int pairs = 0;
            for (int n = low; n <= high; n++) {
                for (int m = low; m <= high && pairs < PAIRS; m++) {
                    ratios[pairs] = Real.divided(Real.ofWhole(n), Real.ofWhole(m));
                    pairs++;
                }
            }
            return pairs;
        }

        private void sortRatios(int pairs) {
            System.arraycopy(ratios, 0, sorted, 0, pairs);
            for (int gap = pairs / 2; gap > 0; gap /= 2) {
                for (int k = gap; k < pairs; k++) {
                    long moving = sorted[k];
                    int hole = k;
                    while (hole >= gap && sorted[hole - gap] > moving) {
                        sorted[hole] = sorted[hole - gap];
                        hole -= gap;
                    }
                    sorted[hole] = moving;
                }
            }
        }

        private static long howFar(long v, long t) {
            return Real.size(Real.minus(v, t));
        }

        /**
         * How far it is with the best second pair. Products grow with the second ratio, so the nearest are the
         * last below t and the first that is not.
         */
        private long howFarWithBest(long ratio, long t, int pairs) {
            int low = 0;
            int high = pairs;
            // Ten halvings leave nothing of 961 pairs.
            for (int k = 0; k < 32 && low < high; k++) {
                int middle = (low + high) / 2;
                if (Real.times(ratio, sorted[middle]) < t) {
                    low = middle + 1;
                } else {
                    high = middle;
                }
            }
            long below = low > 0 ? howFar(Real.times(ratio, sorted[low - 1]), t) : Real.INFINITE;
            long above = low < pairs ? howFar(Real.times(ratio, sorted[low]), t) : Real.INFINITE;
            return Math.min(below, above);
        }

        private int firstAsFar(long ratio, long t, int pairs, long far) {
            for (int k = 0; k < pairs; k++) {
                if (howFar(Real.times(ratio, ratios[k]), t) == far) {
                    return k;
                }
            }
            return 0;
        }

        private void takePair(int wheel, int pair, int low, int high) {
            int several = high - low + 1;
            if (several > 0) {
                teeth[wheel] = low + pair / several;
                teeth[wheel + 1] = low + pair % several;
            }
        }

        /** By eras of 400 years that begin with a March, so that a leap day is the last of its year. */
        private static int dateOf(long bits, int what) {
            long number = Real.toWhole(Real.whole(bits, FLOOR));
            if (number < -100000000L || number > 100000000L) {
                return NO_DATE;
            }
            int day = (int) number + 719468;
            int era = Math.floorDiv(day, 146097);
            int dayOfEra = Math.floorMod(day, 146097);
            int yearOfEra = (dayOfEra - dayOfEra / 1460 + dayOfEra / 36524 - dayOfEra / 146096) / 365;
            int sinceMarch = dayOfEra - (365 * yearOfEra + yearOfEra / 4 - yearOfEra / 100);
            int monthFromMarch = (5 * sinceMarch + 2) / 153;
            boolean newYear = monthFromMarch >= 10;
            int year = era * 400 + yearOfEra + (newYear ? 1 : 0);
            switch (what) {
                case 0:
                    return year;
                case 1:
                    return newYear ? monthFromMarch - 9 : monthFromMarch + 3;
                case 2:
                    return sinceMarch - (153 * monthFromMarch + 2) / 5 + 1;
                case 3:
                    return Math.floorMod((int) number + 3, 7);
                default:
                    boolean leap = year % 4 == 0 && year % 100 != 0 || year % 400 == 0;
                    return newYear ? sinceMarch - 305 : sinceMarch + (leap ? 61 : 60);
            }
        }
    }
}
