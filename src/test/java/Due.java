/** Answers beside those that the document asks for, and texts typed in. */
final class Due {
    private static int checked;
    private static int wrong;
    private static int sentences;
    private static String sentence = "";

    private Due() { }

    /** The words of the document that the answers behind it are due by. */
    static void sentence(String words) {
        sentences++;
        sentence = words;
    }

    static void due(String what, long got, long want) {
        checked++;
        if (got != want) {
            tell(shortened(what) + ": answered " + got + ", due is " + want);
        }
    }

    private static void tell(String what) {
        wrong++;
        System.out.println(sentence.isEmpty() ? what : what + " (" + sentence + ")");
    }

    private static String shortened(String what) {
        return what.length() <= 200 ? what : what.substring(0, 200) + " ..";
    }

    static void due(String what, boolean got, boolean want) {
        due(what, got ? 1 : 0, want ? 1 : 0);
    }

    static void due(String what, String got, String want) {
        checked++;
        if (!got.equals(want)) {
            tell(what + ": answered '" + got + "', due is '" + want + "'");
        }
    }

    static void finish(String name) {
        String of = sentences == 0 ? "" : " of " + sentences + " sentences";
        System.out.println(name + ": " + checked + " answers" + of + ", " + wrong + " not as due");
        if (wrong != 0) {
            System.exit(1);
        }
    }

    static void type(TurningHall hall, String text) {
        int before = hall.count(4);
        for (int from = 0; from < text.length(); from += 20) {
            int[] five = new int[5];
            for (int k = 0; k < 20; k++) {
                int c = from + k < text.length() ? text.charAt(from + k) : ' ';
                five[k / 4] = five[k / 4] << 8 | c & 255;
            }
            hall.feed(five[0], five[1], five[2], five[3], five[4]);
        }
        due("end behind " + text, hall.end(before + text.length()), before + text.length());
    }

    static int plan(TurningHall hall, String text) {
        type(hall, text);
        return hall.plan();
    }

    static TurningHall planned(String text) {
        TurningHall hall = new TurningHall();
        due("plan " + text, plan(hall, text) >= 0, true);
        return hall;
    }

    static int ask(TurningHall hall, String text) {
        type(hall, text);
        return hall.ask();
    }

    static int await(TurningHall hall, String text, int n) {
        type(hall, text);
        return hall.await(n);
    }

    /** Asks, and wants a value of this sort and these BITS. */
    static void told(TurningHall hall, String text, int sort, long bits) {
        due("sort of " + text, ask(hall, text), sort);
        due("BITS of " + text, hall.told(), bits);
    }

    static void told(String text, int sort, long bits) {
        told(new TurningHall(), text, sort, bits);
    }

    static void told(String text, double x) {
        told(text, 7, bits(x));
    }

    static void told(String text, float x) {
        told(text, 6, Float.floatToRawIntBits(x));
    }

    static void jams(String text, int kind) {
        due("jam of " + text, ask(new TurningHall(), text), 8 + kind);
    }

    /** Asks for a fault of this kind at this place. */
    static void faulty(String text, int kind, int place) {
        TurningHall hall = new TurningHall();
        due("place of the fault of " + text, ask(hall, text), -1 - place);
        due("kind of the fault of " + text, hall.fault(), kind);
    }

    static void faultyPlan(String text, int kind, int place) {
        TurningHall hall = new TurningHall();
        due("place of the fault of " + text, plan(hall, text), -1 - place);
        due("kind of the fault of " + text, hall.fault(), kind);
        due("bytes left of " + text, hall.count(4), 0);
    }

    static long bits(double x) {
        return Double.doubleToRawLongBits(x);
    }

    static String text(TurningHall hall) {
        StringBuilder s = new StringBuilder();
        for (int k = 0; k < hall.count(6); k++) {
            s.append((char) hall.octet(k));
        }
        return s.toString();
    }

    static String times(String text, int n) {
        return text.repeat(n);
    }
}
