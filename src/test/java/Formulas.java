import java.util.List;

/** Draws formulas whose sorts fit (for the most part), over the names that it is given. */
final class Formulas {
    private final Draws draws;
    List<String> numbers = List.of();
    List<String> truths = List.of();
    List<String> cams = List.of();

    Formulas(Draws draws) {
        this.draws = draws;
    }

    String blank() {
        return draws.oneIn(3) ? draws.oneOf(" ", "  ", "\n", "\t") : "";
    }

    String truth(int size) {
        if (size <= 1 || draws.oneIn(5)) {
            if (!truths.isEmpty() && draws.oneIn(2)) {
                String name = truths.get(draws.below(truths.size()));
                return draws.oneIn(3) ? "old(" + name + ")" : name;
            }
            return draws.oneOf("true", "false");
        }
        int half = size / 2;
        switch (draws.below(9)) {
            case 0:
                return "(" + truth(half) + blank() + draws.oneOf("&&", "||") + blank() + truth(half) + ")";
            case 1:
                return truth(half) + " " + draws.oneOf("&&", "||") + " " + "(" + truth(half) + ")";
            case 2:
                return "!" + blank() + "(" + truth(size - 1) + ")";
            case 3:
                return "(" + truth(half) + draws.oneOf("==", "!=") + truth(half) + ")";
            case 4:
                return "(" + truth(size / 3) + "?" + truth(size / 3) + ":" + truth(size / 3) + ")";
            case 5:
                return "(truth)(" + truth(size - 1) + ")";
            default:
                return "(" + number(half) + blank() + draws.oneOf("<", "<=", ">", ">=", "==", "!=") + blank()
                    + number(half) + ")";
        }
    }

    String number(int size) {
        if (size <= 1 || draws.oneIn(8)) {
            return leaf();
        }
        int half = size / 2;
        switch (draws.below(12)) {
            case 0, 1, 2, 3:
                return part(half) + blank() + draws.oneOf("+", "-", "*", "/", "%") + blank() + part(half);
            case 4:
                return draws.oneOf("-", "- ", "-") + part(size - 1);
            case 5, 6:
                return "(" + draws.oneOf("byte", "short", "char", "int", "long", "float", "double") + ")"
                    + part(size - 1);
            case 7:
                return draws.oneOf("floor", "ceil", "rint", "abs") + blank() + "(" + number(size - 1) + ")";
            case 8:
                return draws.oneOf("least", "most", "gcd") + "(" + number(half) + "," + number(half) + ")";
            case 9:
                return "(" + truth(size / 3) + " ? " + number(size / 3) + " : " + number(size / 3) + ")";
            case 10:
                if (!cams.isEmpty()) {
                    return cams.get(draws.below(cams.size())) + "[(int)" + part(half) + " % "
                        + (1 + draws.below(9)) + "]";
                }
                return leaf();
            default:
                return part(half) + draws.oneOf("*", "/", "%") + part(half / 2) + draws.oneOf("+", "-", "*", "%")
                    + part(half / 2);
        }
    }

    private String part(int size) {
        if (size <= 1) {
            return leaf();
        }
        String inner = number(size);
        return draws.oneIn(6) && !inner.contains("?") ? inner : "(" + inner + ")";
    }

    private String leaf() {
        if (!numbers.isEmpty() && draws.below(5) < 3) {
            String name = numbers.get(draws.below(numbers.size()));
            return draws.oneIn(4) ? "old(" + name + ")" : name;
        }
        switch (draws.below(8)) {
            case 0:
                return "ticks";
            case 1:
                return "step";
            default:
                return draws.literal();
        }
    }
}
