/** A hall with its oracle: every call goes to both, and where they differ it is told. */
final class Hall {
    final TurningHall hall = new TurningHall();
    final Oracle oracle = new Oracle();
    private final StringBuilder history = new StringBuilder();
    static int calls;
    static int wrong;

    private long same(String call, long got, long due) {
        calls++;
        history.append(call).append(" -> ").append(got).append('\n');
        if (got != due) {
            wrong++;
            if (wrong <= 5) {
                System.out.println(history.substring(Math.max(0, history.length() - 6000)));
                System.out.println(call + " answered " + got + ", the oracle " + due);
            }
        }
        return got;
    }

    static void finish(String name) {
        System.out.println(name + ": " + calls + " calls, " + wrong + " not as due");
        if (wrong != 0) {
            System.exit(1);
        }
    }

    void type(String text) {
        history.append("tape: ").append(text).append('\n');
        for (int from = 0; from < text.length(); from += 20) {
            int[] five = new int[5];
            for (int k = 0; k < 20; k++) {
                int c = from + k < text.length() ? text.charAt(from + k) : ' ';
                five[k / 4] = five[k / 4] << 8 | c & 255;
            }
            same("feed", hall.feed(five[0], five[1], five[2], five[3], five[4]), oracle.feed(five));
        }
        end(text.length());
    }

    int end(int n) {
        return (int) same("end(" + n + ")", hall.end(n), oracle.end(n));
    }

    int plan(String text) {
        type(text);
        int got = (int) same("plan()", hall.plan(), oracle.plan());
        fault();
        return got;
    }

    int ask(String text) {
        type(text);
        int got = (int) same("ask()", hall.ask(), oracle.ask());
        fault();
        told();
        return got;
    }

    int await(String text, int n) {
        type(text);
        int got = (int) same("await(" + n + ")", hall.await(n), oracle.await(n));
        fault();
        count(4);
        return got;
    }

    int fault() {
        return (int) same("fault()", hall.fault(), oracle.fault());
    }

    int count(int what) {
        return (int) same("count(" + what + ")", hall.count(what), oracle.count(what));
    }

    int thing(int i, int what) {
        return (int) same("thing(" + i + ", " + what + ")", hall.thing(i, what), oracle.thing(i, what));
    }

    int letter(int i, int k) {
        return (int) same("letter(" + i + ", " + k + ")", hall.letter(i, k), oracle.letter(i, k));
    }

    long value(int i, int ago) {
        return same("value(" + i + ", " + ago + ")", hall.value(i, ago), oracle.value(i, ago));
    }

    boolean set(int i, long bits) {
        return same("set(" + i + ", " + bits + ")", hall.set(i, bits) ? 1 : 0, oracle.set(i, bits) ? 1 : 0) == 1;
    }

    boolean step(long bits) {
        return same("step(" + bits + ")", hall.step(bits) ? 1 : 0, oracle.step(bits) ? 1 : 0) == 1;
    }

    long tick(int n) {
        return same("tick(" + n + ")", hall.tick(n), oracle.tick(n));
    }

    long strike(int k, int what) {
        return same("strike(" + k + ", " + what + ")", hall.strike(k, what), oracle.strike(k, what));
    }

    long told() {
        return same("told()", hall.told(), oracle.told());
    }

    int dial(long bits, int digits) {
        return (int) same("dial(" + bits + ", " + digits + ")", hall.dial(bits, digits), oracle.dial(bits, digits));
    }

    int clock(long bits) {
        return (int) same("clock(" + bits + ")", hall.clock(bits), oracle.clock(bits));
    }

    void text() {
        int n = count(6);
        for (int k = -1; k <= n; k++) {
            same("octet(" + k + ")", hall.octet(k), oracle.octet(k));
        }
    }

    long measure(long a, long b) {
        return same("measure(" + a + ", " + b + ")", hall.measure(a, b), oracle.measure(a, b));
    }

    long together(long a, long b) {
        return same("together(" + a + ", " + b + ")", hall.together(a, b), oracle.together(a, b));
    }

    long train(long t, int stages, int low, int high) {
        String call = "train(" + t + ", " + stages + ", " + low + ", " + high + ")";
        long got = same(call, hall.train(t, stages, low, high), oracle.train(t, stages, low, high));
        for (int k = -1; k <= 4; k++) {
            same("wheel(" + k + ")", hall.wheel(k), oracle.wheel(k));
        }
        count(7);
        return got;
    }

    int date(long bits, int what) {
        return (int) same("date(" + bits + ", " + what + ")", hall.date(bits, what), oracle.date(bits, what));
    }

    boolean keep(int place) {
        return same("keep(" + place + ")", hall.keep(place) ? 1 : 0, oracle.keep(place) ? 1 : 0) == 1;
    }

    boolean back(int place) {
        return same("back(" + place + ")", hall.back(place) ? 1 : 0, oracle.back(place) ? 1 : 0) == 1;
    }

    /** Looks at all that can be seen of the plan and its works. */
    void lookAround() {
        for (int what = -1; what <= 8; what++) {
            count(what);
        }
        int things = count(0);
        int bells = count(1);
        for (int i = -1; i <= things; i++) {
            for (int what = -1; what <= 7; what++) {
                thing(i, what);
            }
            for (int ago = 0; ago <= 3; ago++) {
                value(i, ago);
            }
        }
        for (int i = 99; i <= 100 + bells; i++) {
            for (int what = -1; what <= 7; what++) {
                thing(i, what);
            }
        }
        for (int k = -1; k <= count(5); k++) {
            strike(k, 0);
            strike(k, 1);
        }
    }
}
