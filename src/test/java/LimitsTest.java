/** Depths, nodes, things, bells, cams and teeth around their limits, against the oracle. */
public final class LimitsTest {
    private static final int[] SEEN = new int[5];

    /** Brackets and signs ahead in one another, so many deep, with short parts beside them. */
    private static String deep(Draws draws, int depth) {
        if (depth <= 0) {
            return draws.oneOf("1", "a", "2.5", "old(a)", "c[0]", "-1", "(int)2", "floor(3)");
        }
        String inner = deep(draws, depth - 1);
        switch (draws.below(13)) {
            case 0:
                return "-" + inner;
            case 1:
                return "(int)" + inner;
            case 2:
                return "(" + inner + ")";
            case 3:
                return "c[" + inner + "]";
            case 4:
                return "floor(" + inner + ")";
            case 5:
                return "least(1," + inner + ")";
            case 6:
                return "most(" + inner + ",-(2))";
            case 7:
                return "true ? " + inner + " : 2";
            case 8:
                return "true ? -1 : " + inner;
            case 9:
                return "1+" + inner;
            case 10:
                return inner + "*-1";
            case 11:
                return "!" + inner;
            default:
                return "1 < 2 ? 1 :" + inner;
        }
    }

    private static void depths(Draws draws) {
        Hall hall = new Hall();
        hall.plan("part a:int=1 then 2; cam c=1,2;");
        for (int k = 0; k < 30; k++) {
            hall.ask(deep(draws, 30 + draws.below(40)));
            SEEN[hall.fault()]++;
        }
    }

    private static String sum(Draws draws, int nodes) {
        StringBuilder s = new StringBuilder(draws.oneOf("1", "a", "step"));
        int made = 1;
        while (made < nodes) {
            if (made + 5 <= nodes && draws.oneIn(9)) {
                s.append(draws.oneOf("+c[1+1]", "+-(1*1)", "*abs(1/1)", "-least(1,1)", "+(1<2?1:1)").replace(" ", ""));
                made += s.toString().endsWith("(1<2?1:1)") ? 7 : 0;
                made += s.toString().endsWith("c[1+1]") ? 5 : 0;
                made += s.toString().endsWith("(1*1)") ? 5 : 0;
                made += s.toString().endsWith("(1/1)") ? 5 : 0;
                made += s.toString().endsWith("(1,1)") ? 4 : 0;
            } else if (made + 3 <= nodes && draws.oneIn(6)) {
                s.append("+(int)a");
                made += 3;
            } else if (made + 2 <= nodes) {
                s.append("+1");
                made += 2;
            } else {
                s.insert(0, "-");
                made++;
            }
        }
        return s.toString();
    }

    private static void nodes(Draws draws) {
        Hall hall = new Hall();
        hall.plan("part a:int=1 then 2; cam c=1,2;");
        for (int k = 0; k < 6; k++) {
            String text = sum(draws, 494 + draws.below(14)) + draws.oneOf("", "", "", ")", "+", "+z", "+true");
            hall.ask(text);
            SEEN[hall.fault()]++;
        }
        StringBuilder plan = new StringBuilder("part a:int=1 then 2; cam c=1,2;");
        int rest = 498 + draws.below(5) - 2;
        for (int k = 0; rest > 0; k++) {
            int some = Math.min(rest, 40 + draws.below(60));
            plan.append("show s").append(k).append(":double=").append(sum(draws, some)).append(";");
            rest -= some;
        }
        hall.plan(plan + draws.oneOf("", "", "", "show", "cam d=1;", "bell c when true;"));
        SEEN[hall.fault()]++;
        hall.count(3);
        hall.lookAround();
    }

    private static void tellings(Draws draws) {
        int[] most = {38 + draws.below(5), 10 + draws.below(5), 6 + draws.below(5)};
        StringBuilder plan = new StringBuilder();
        int name = 0;
        while (most[0] + most[1] + most[2] > 0) {
            int which = draws.below(3);
            if (most[which]-- > 0) {
                String text = which == 0 ? "show n" + name + ":int=1;" : which == 1 ? "bell n" + name + " when true;"
                    : "cam n" + name + "=" + teeth(draws) + ";";
                plan.append(text);
                name++;
            } else {
                most[which] = 0;
            }
        }
        if (draws.oneIn(4)) {
            plan.append(draws.oneOf("show n1:int=1;", "bell x", "part y:int=true then 1;", "cam n0=1;", "$"));
        }
        Hall hall = new Hall();
        if (plan.length() <= 3000) {
            hall.plan(plan.toString());
            SEEN[hall.fault()]++;
            hall.lookAround();
            hall.tick(2);
            hall.lookAround();
            for (int i = 0; i < 300; i++) {
                hall.letter(i, 0);
            }
        }
    }

    private static String teeth(Draws draws) {
        int n = draws.oneIn(4) ? 23 + draws.below(4) : 1 + draws.below(3);
        StringBuilder s = new StringBuilder("1");
        for (int k = 1; k < n; k++) {
            s.append(draws.oneOf(",2", ",-2", ", - 0", ",1.5f"));
        }
        return s.toString();
    }

    public static void main(String[] args) {
        Draws draws = new Draws(40);
        for (int k = 0; k < 1500; k++) {
            depths(draws);
        }
        for (int k = 0; k < 500; k++) {
            nodes(draws);
            tellings(draws);
        }
        System.out.println("kinds of fault seen: " + java.util.Arrays.toString(SEEN));
        Hall.finish("LimitsTest");
    }
}
