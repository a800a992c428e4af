import java.util.ArrayList;
import java.util.List;

/** Problems with as much as may be of everything, and that no call and no problem has anything of an earlier one. */
final class ReuseEdges {
    private static final String SMALL = "fact f = 2; var a in 5..6; var b in {7, 9, 8}; rule r at 0*2: a + 1 # b; "
        + "rule s at 1*3: a + f = b; aim m at 2: a - b;";
    private static final String TINY = "var q in {3, 4};";
    private static final String CLASHING = "fact f = 0; var a in 0..1; rule r at 0*2: a = 1 - f; rule s at 0*3: a = 0;";

    private ReuseEdges() {
    }

    static void run() {
        greatest();
        numbersAgain();
        besideOneAnother();
        clashesAgain();
        broughtAgain();
    }

    /** 16 facts, 12 vars, 24 rules, of which the first and the last are hard and 12 in all, and 6 aims. */
    private static String full() {
        StringBuilder s = new StringBuilder();
        for (int f = 0; f < 16; f++) {
            s.append("fact f").append(f).append(" = ").append(f - 8 < 0 ? "-" : "").append(Math.abs(f - 8)).append(';');
        }
        int[] sizes = {2, 1, 2, 1, 2, 1, 1, 2, 1, 1, 1, 2};
        for (int v = 0; v < 12; v++) {
            s.append("var v").append(v).append(" in ").append(v).append("..").append(v + sizes[v] - 1).append(';');
        }
        for (int r = 0; r < 24; r++) {
            boolean hard = r % 2 == 0 && r < 20 || r == 21 || r == 23;
            s.append("rule r").append(r).append(" at ").append(hard ? 0 : 1 + r % 4 / 2).append('*').append(r
                + 1).append(": ");
            if (hard) {
                s.append("v").append(r % 12).append(" + v11 # f").append(r % 16).append(" + ").append(r == 23 ? 14 : 18).append(';');
            } else {
                s.append("v").append(r % 12).append(" = v").append((r
                    + 4) % 12).append(" - ").append(r % 3).append(" & v11 > 11;");
            }
        }
        for (int m = 0; m < 6; m++) {
            s.append("aim m").append(m).append(" at ").append(1
                + m % 2).append(": v").append(2 * m).append(" * f").append(m + 10).append(" + v11;");
        }
        return s.toString();
    }

    /** Every question that there is of a problem, and some changes between them. */
    private static List<String> questions(int vars, int facts, int rules, int aims) {
        List<String> all = new ArrayList<>();
        for (int what = 0; what <= 9; what++) {
            all.add("count(P, " + what + ")");
        }
        for (int kind = 0; kind < 4; kind++) {
            int[] many = {facts, vars, rules, aims};
            all.add("letter(P, " + kind + ", " + (many[kind] - 1) + ", 0)");
            all.add("letter(P, " + kind + ", " + many[kind] + ", 0)");
        }
        int statements = vars + facts + rules + aims;
        all.add("shown(P, " + (statements - 1) + ", 3)");
        all.add("shown(P, " + statements + ", 0)");
        for (int f = 0; f <= facts; f++) {
            all.add("fact(P, " + f + ")");
        }
        for (int r = 0; r <= rules; r++) {
            for (int what = 0; what < 4; what++) {
                all.add("rule(P, " + r + ", " + what + ")");
            }
            all.add("broken(P, " + r + ")");
        }
        for (int a = 0; a <= aims; a++) {
            all.add("aim(P, " + a + ")");
        }
        for (String round : new String[] {"", "change(P, 0, 3)", "pin(P, 0, true)", "pin(P, " + (vars - 1) + ", true)",
            "solve(P)"}) {
            if (!round.isEmpty()) {
                all.add(round);
            }
            askAll(all, vars, facts, rules);
        }
        return all;
    }

    private static void askAll(List<String> all, int vars, int facts, int rules) {
        all.add("reach(P)");
        all.add("hopeless(P)");
        all.add("feasibles(P)");
        all.add("bests(P)");
        all.add("front(P)");
        all.add("frontAt(P, 0, 0)");
        all.add("clash(P)");
        all.add("fewest(P)");
        all.add("relax(P)");
        for (int level = 0; level < 3; level++) {
            all.add("score(P, " + level + ")");
            all.add("best(P, " + level + ")");
            for (int r = 0; r <= rules; r++) {
                all.add("without(P, " + r + ", " + level + ")");
            }
        }
        for (int v = 0; v <= vars; v++) {
            for (int k = 0; k < 4; k++) {
                all.add("isLeft(P, " + v + ", " + k + ")");
                all.add("range(P, " + v + ", " + k + ")");
            }
            all.add("choices(P, " + v + ")");
            for (int value : new int[] {0, v, v + 1, 5, 6, 7, 8, 9}) {
                all.add("has(P, " + v + ", " + value + ", false)");
                all.add("whyNot(P, " + v + ", " + value + ", 1)");
                all.add("because(P, " + v + ", " + value + ")");
                all.add("put(P, " + v + ", " + value + ")");
            }
            all.add("above()");
            all.add("below()");
        }
        futures(all, facts);
        for (String change : new String[] {"near(P, false)", "mend(P, -1)", "feasibleAt(P, 1)", "frontPlan(P, 0)",
            "bestAt(P, 0)", "near(P, true)"}) {
            all.add(change);
            tellPlan(all, vars);
        }
        for (int how = 0; how < 4; how++) {
            all.add("search(P, " + how + ", 3, " + (how + 77) + ", 25)");
            all.add("searched(0)");
            tellPlan(all, vars);
        }
        all.add("solve(P)");
        all.add("prove(P)");
        all.add("check(P)");
        all.add("spoil(2, 3)");
        all.add("check(P)");
        all.add("fault()");
        for (char leaf : new char[] {'<', '.'}) {
            all.add("cut(0)");
            all.add("type(" + (int) leaf + ", 1)");
            all.add("check(P)");
            all.add("fault()");
        }
    }

    private static void futures(List<String> all, int facts) {
        for (int u = 0; u < 7; u++) {
            all.add("future(P, " + (u + 1) + ")");
            all.add("told(P, " + u + ", " + (facts - 1) + ", " + (u - 1) + ")");
            all.add("told(P, " + u + ", " + facts + ", 1)");
        }
        for (int level = 0; level < 3; level++) {
            all.add("expected(P, " + level + ")");
            all.add("regret(P, " + level + ")");
        }
        all.add("robust(P)");
        all.add("unfold(P)");
    }

    private static void tellPlan(List<String> all, int vars) {
        for (int v = 0; v < vars; v++) {
            all.add("value(P, " + v + ")");
        }
    }

    private static void sameAnswers(Object x, int p, Object y, int q, List<String> calls) {
        for (String call : calls) {
            Edges.due(x, call.replace("(P", "(" + p), Edges.ask(y, call.replace("(P", "(" + q)));
        }
    }

    private static void greatest() {
        Edges.terms("a problem with as many facts, vars, rules and aims as may be is asked all that there is");
        PlanningHouse x = new PlanningHouse();
        Model model = new Model();
        Edges.type(x, full());
        Edges.type(model, full());
        Edges.due(x, "problem()", 0);
        Edges.due(model, "problem()", 0);
        Edges.due(x, "count(0, 6)", 12);
        sameAnswers(x, 0, model, 0, questions(12, 16, 24, 6));
    }

    private static void numbersAgain() {
        for (String text : new String[] {SMALL, TINY, CLASHING}) {
            Edges.terms("a problem has nothing of the one that had its number before");
            PlanningHouse x = Edges.with(full());
            for (String call : questions(12, 16, 24, 6)) {
                Edges.ask(x, call.replace("(P", "(0"));
            }
            Edges.due(x, "drop(0)", 1);
            Edges.due("problem()", Edges.read(x, text), 0);
            PlanningHouse fresh = Edges.with(text);
            sameAnswers(x, 0, fresh, 0, questions(fresh.count(0, 1), Math.max(1, fresh.count(0, 0)), Math.max(1,
                fresh.count(0, 2)), 1));
            Edges.terms("a problem that was loaded has nothing of the one that had its number before");
            x = Edges.with(text);
            x.save(0);
            x.drop(0);
            Edges.due("problem()", Edges.read(x, full()), 0);
            for (String call : questions(12, 16, 24, 6)) {
                Edges.ask(x, call.replace("(P", "(0"));
            }
            x.drop(0);
            Edges.due(x, "load(0)", 0);
            fresh = Edges.with(text);
            sameAnswers(x, 0, fresh, 0, questions(fresh.count(0, 1), Math.max(1, fresh.count(0, 0)), Math.max(1,
                fresh.count(0, 2)), 1));
        }
    }

    private static void besideOneAnother() {
        Edges.terms("problems have nothing of those beside them");
        String[] texts = {full(), SMALL, TINY, CLASHING};
        PlanningHouse x = new PlanningHouse();
        PlanningHouse[] alone = new PlanningHouse[4];
        for (int p = 0; p < 4; p++) {
            Edges.due("problem()", Edges.read(x, texts[p]), p);
            alone[p] = Edges.with(texts[p]);
        }
        List<String> calls = questions(3, 2, 3, 2);
        // The tape, the board and what was searched last belong to the house.
        calls.removeIf(call -> !call.contains("(P") || call.startsWith("check"));
        for (String call : calls) {
            for (int p = 0; p < 4; p++) {
                Edges.due(x, call.replace("(P", "(" + p), Edges.ask(alone[p], call.replace("(P", "(0")));
            }
        }
    }

    private static void clashesAgain() {
        Edges.promise(41, "as things are now, whatever they were before");
        PlanningHouse x = Edges.with(CLASHING);
        for (int round = 0; round < 3; round++) {
            x.change(0, 0, 1);
            Edges.due(x, "clash(0)", 0);
            Edges.due(x, "fewest(0)", 0);
            Edges.due(x, "relax(0)", 0);
            Edges.due(x, "reach(0)", 1);
            x.change(0, 0, 0);
            Edges.due(x, "clash(0)", 3);
            Edges.due(x, "fewest(0)", 3);
            Edges.due(x, "relax(0)", 1);
            Edges.due(x, "reach(0)", 0);
            Edges.due(x, "hopeless(0)", Edges.NONE);
        }
        Edges.promise(46, "an aim is no rule, also when there are 24 rules");
        StringBuilder text = new StringBuilder("var a in 0..1;");
        for (int r = 0; r < 24; r++) {
            text.append("rule r").append(r).append(" at ").append(r < 12 ? 0 : 2).append("*1: a >= 0;");
        }
        x = Edges.with(text + "aim m at 1: a;");
        Edges.due(x, "because(0, 0, 1)", Edges.NONE);
        Edges.due(x, "whyNot(0, 0, 1, 1)", 1);
        Edges.promise(55, "the BOUND counts each aim once, also when there are 24 rules and 6 aims");
        String aims = "aim m at 1: a + 5; aim n at 2: a; aim o at 2: a; aim p at 2: a; aim q at 2: a;";
        for (String last : new String[] {"", "aim s at 2: a + 9;"}) {
            x = Edges.with(text + aims + last);
            Edges.type(x, "<");
            Edges.due(x, "check(0)", 0);
            x.put(0, 0, 1);
            Edges.due(x, "check(0)", -1);
            Edges.due(x, "fault()", 8);
        }
    }

    private static void broughtAgain() {
        Edges.promise(66, "rows of one export have nothing of one another");
        PlanningHouse x = Edges.with(full());
        Edges.due("problem()", Edges.read(x, TINY), 1);
        Edges.due("problem()", Edges.read(x, SMALL), 2);
        x.put(0, 11, 12);
        x.weigh(0, 2, 1000);
        x.pin(0, 11, true);
        for (int k = 0; k < 6; k++) {
            Edges.due(x, "save(" + k % 3 + ")", k);
        }
        int size = x.size();
        Edges.due(x, "take()", size + 10);
        Edges.due(x, "bring()", 6);
        Edges.due(x, "size()", 2 * size);
        for (int i = 0; i < size; i++) {
            Edges.due("byteAt(" + (size + i) + ")", x.byteAt(size + i), x.byteAt(i));
        }
        for (int k = 6; k < 9; k++) {
            Edges.due(x, "load(" + k + ")", 3);
            PlanningHouse fresh = Edges.with(k == 6 ? full() : k == 7 ? TINY : SMALL);
            for (int what = 0; what < 9; what++) {
                Edges.due(x, "count(3, " + what + ")", k == 6 && what == 5 ? 16 : fresh.count(0, what));
            }
            Edges.due(x, "drop(3)", 1);
        }
    }
}
