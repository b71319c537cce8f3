import java.util.ArrayList;
import java.util.List;

/** Draws whole plans, for the most part without a fault. */
final class Plans {
    private final Draws draws;
    final List<String> numbers = new ArrayList<>();
    final List<String> truths = new ArrayList<>();
    final List<String> cams = new ArrayList<>();
    private int names;

    Plans(Draws draws) {
        this.draws = draws;
    }

    private String name() {
        names++;
        String tail = draws.oneOf("", "x", "Abc", "z9z9");
        return draws.oneOf("a", "b", "Z", "part", "q") + names + tail;
    }

    String draw(int most, int size) {
        numbers.clear();
        truths.clear();
        cams.clear();
        StringBuilder plan = new StringBuilder();
        int told = 1 + draws.below(most);
        for (int k = 0; k < told; k++) {
            Formulas ahead = formulas();
            switch (draws.below(8)) {
                case 0:
                    plan.append(cam());
                    break;
                case 1, 2:
                    plan.append("bell ").append(name()).append(" when ").append(ahead.truth(size)).append(";");
                    break;
                case 3:
                    thing(plan, ahead, 0, size);
                    break;
                default:
                    thing(plan, ahead, 1 + draws.below(7), size);
            }
            plan.append(ahead.blank());
        }
        return plan.toString();
    }

    Formulas formulas() {
        Formulas f = new Formulas(draws);
        f.numbers = List.copyOf(numbers);
        f.truths = List.copyOf(truths);
        f.cams = List.copyOf(cams);
        return f;
    }

    private String cam() {
        String name = name();
        StringBuilder s = new StringBuilder("cam " + name + "=");
        int teeth = 1 + draws.below(6);
        for (int k = 0; k < teeth; k++) {
            s.append(k > 0 ? "," : "").append(draws.oneIn(3) ? "-" : "").append(draws.literal());
        }
        cams.add(name);
        return s.append(";").toString();
    }

    private void thing(StringBuilder plan, Formulas ahead, int sort, int size) {
        boolean part = draws.oneIn(2);
        String name = name();
        plan.append(part ? "part " : "show ").append(name).append(":").append(Oracle.SORTS.get(sort)).append("=");
        plan.append(formula(ahead, sort, size));
        (sort == 0 ? truths : numbers).add(name);
        if (part) {
            plan.append(" then ").append(formula(formulas(), sort, size));
        }
        plan.append(";");
    }

    private String formula(Formulas f, int sort, int size) {
        if (sort == 0) {
            return f.truth(size);
        }
        String number = f.number(size);
        boolean bare = sort == 7 || draws.oneIn(30);
        return bare ? number : "(" + Oracle.SORTS.get(sort) + ")(" + number + ")";
    }
}
