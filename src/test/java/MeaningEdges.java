import java.util.Arrays;

/** Edges of WHAT THEY SAY in "Terms": sums, tests, scores, which plan is better, which one is first. */
final class MeaningEdges {
    private static final String VARS = "fact f = 7; var a in -3..12; var b in -3..12; var c in -3..5; var d in 0..3;";

    private MeaningEdges() {
    }

    static void run() {
        held();
        picks();
        comparisons();
        joints();
        all();
        row();
        lex();
        ring();
        auto();
        busy();
        apart();
        behindLists();
        scores();
        better();
        first();
        beginning();
    }

    private static void sum(long is, String sum, int... values) {
        PlanningHouse x = Edges.with(VARS + "aim m at 1: " + sum + ";");
        Edges.put(x, values);
        Edges.due(sum + " with " + Arrays.toString(values), x.aim(0, 0), is);
    }

    private static void broken(long by, String test, int... values) {
        PlanningHouse x = Edges.with(VARS + "rule r at 1*1: " + test + ";");
        Edges.put(x, values);
        Edges.due(test + " with " + Arrays.toString(values), x.broken(0, 0), by);
    }

    private static void held() {
        Edges.terms("each result of + - * and of - before a FACTOR, and of abs, is HELD to -1000000 .. 1000000");
        String million = "1000 * 1000";
        sum(1000000, million);
        sum(999999, million + " - 1");
        sum(1000000, million + " - 1 + 1");
        sum(1000000, million + " + 1");
        sum(999999, million + " + 1 - 1");
        sum(1000000, million + " + " + million);
        sum(0, million + " + " + million + " - " + million);
        sum(1000000, "1001 * 1000");
        sum(1000000, "9999 * 9999");
        sum(999000, "999 * 1000");
        sum(-1000000, "0 - " + million);
        sum(-1000000, "0 - " + million + " - 1");
        sum(-999999, "0 - " + million + " - 1 + 1");
        sum(-1000000, "- 1000 * 1000");
        sum(-1000000, "- 1001 * 1000");
        sum(-1000000, "- 9999 * 9999");
        sum(-1000000, "0 - " + million + " - " + million);
        sum(1000000, "(0 - " + million + ") * (0 - " + million + ")");
        sum(-1000000, "(0 - " + million + ") * " + million);
        sum(-1000000, "- (" + million + ")");
        sum(1000000, "- (0 - " + million + ")");
        sum(1000000, "- (0 - " + million + " - 5)");
        sum(1000000, "abs(0 - " + million + " - 1)");
        sum(1000000, "abs(" + million + " + 1)");
        sum(999999, "abs(1 - " + million + ")");
        sum(0, "abs(0)");
        sum(0, "9999 * 9999 * 9999 * 9999 * 0");
        sum(1000000, "min(" + million + " + 1, " + million + " * 2)");
        sum(-1000000, "max(0 - " + million + " - 1, - (" + million + ") * 2)");
        Edges.terms("SUMS are whole numbers, and go from the left; * goes before + and -");
        sum(-4, "1 - 2 - 3");
        sum(-5, "1 - 2 * 3");
        sum(5, "7 - 2 + 0");
        sum(-6, "- 2 * 3");
        sum(-6, "2 * - 3");
        sum(1, "- 2 - - 3");
        sum(-5, "- (2 + 3)");
        sum(-49, "- f * f");
        Edges.terms("min and max of one SUM and of twenty");
        sum(5, "min(5)");
        sum(-5, "max(-5)");
        sum(-2, "min(" + Edges.repeat("1", 19, ",") + ", -2)");
        sum(-2, "min(-2, " + Edges.repeat("1", 19, ",") + ")");
        sum(3, "max(" + Edges.repeat("1", 19, ",") + ", 3)");
        sum(3, "max(3, " + Edges.repeat("1", 19, ",") + ")");
    }

    private static void picks() {
        Edges.terms("pick is the INT at place s, from 0, and 0 when there is none");
        sum(0, "pick(a : 5, -6, 8)", -1);
        sum(5, "pick(a : 5, -6, 8)", 0);
        sum(-6, "pick(a : 5, -6, 8)", 1);
        sum(8, "pick(a : 5, -6, 8)", 2);
        sum(0, "pick(a : 5, -6, 8)", 3);
        sum(4, "pick(a : 4)", 0);
        sum(0, "pick(a : 4)", 1);
        sum(0, "pick(1000 * 1000 : 4)");
        sum(0, "pick(- 1000 * 1000 : 4)");
        String twenty = Edges.repeat("1", 19, ",") + ",-9999";
        sum(1, "pick(a + 10 : " + twenty + ")", 8);
        sum(-9999, "pick(a + 10 : " + twenty + ")", 9);
        sum(0, "pick(a + 10 : " + twenty + ")", 10);
        Edges.terms("[ TEST ] is 1 if the TEST is not broken, else 0");
        sum(1, "[a = 1]", 1);
        sum(0, "[a = 1]", 2);
        sum(0, "[a = 1]", 12);
        sum(0, "[1000 * 1000 = 0]");
        sum(1, "[[a = 1] = 1]", 1);
    }

    private static void comparisons() {
        for (int gap = -3; gap <= 3; gap++) {
            int a = 3 + gap;
            Edges.terms("a = b is broken by |a - b|");
            broken(Math.abs(gap), "a = b", a, 3);
            Edges.terms("a # b is broken by 1 if they are the same");
            broken(gap == 0 ? 1 : 0, "a # b", a, 3);
            Edges.terms("a <= b is broken by a - b, if that is above 0; < by one more; > and >= turned round");
            broken(Math.max(0, gap), "a <= b", a, 3);
            broken(Math.max(0, gap + 1), "a < b", a, 3);
            broken(Math.max(0, -gap), "a >= b", a, 3);
            broken(Math.max(0, 1 - gap), "a > b", a, 3);
        }
        Edges.terms("a TEST alone is not held to 1000000");
        String most = "1000 * 1000";
        String least = "(0 - 1000 * 1000)";
        broken(2000000, most + " = " + least);
        broken(2000000, least + " = " + most);
        broken(2000000, most + " <= " + least);
        broken(2000001, most + " < " + least);
        broken(2000000, least + " >= " + most);
        broken(2000001, least + " > " + most);
        broken(2000001, "{" + most + " < " + least + "}");
        broken(2000000, most + " < " + least + " | " + most + " = " + least);
        broken(2000001, "1 = 1 -> " + most + " < " + least);
    }

    private static void joints() {
        Edges.terms("what & puts together is held to 1000000, test by test");
        broken(999999, "1000 * 1000 = 1 & 1 = 1");
        broken(1000000, "1000 * 1000 = 1 & 1 = 2");
        broken(1000000, "1000 * 1000 = 1 & 1 = 3");
        broken(1000000, "1000 * 1000 = - 1 & 1 = 1");
        broken(1000000, "1 = 1 & 1000 * 1000 = - 1");
        broken(1000000, "1000 * 1000 = - 1000 * 1000 & 1000 * 1000 = - 1000 * 1000");
        broken(1000000, "{1000 * 1000 = - 5 & 1 = 1} & 1 = 1 & 1 = 1");
        broken(6, "1 = 2 & 1 = 3 & 1 = 4");
        Edges.terms("A | B is broken by the lesser one");
        broken(2, "a = 1 | b = 1", 3, 4);
        broken(2, "b = 1 | a = 1", 3, 4);
        broken(0, "a = 1 | b = 1", 1, 4);
        broken(2, "a = 1 | b = 1 | c = 1", 4, 5, 3);
        broken(3, "a = 1 & b = 1 | c = 1", 2, 3, 5);
        broken(4, "a = 1 & b = 1 | c = 1", 9, 3, 5);
        Edges.terms("~ A is broken by 1 if A is not broken");
        broken(1, "~ a = 1", 1);
        broken(0, "~ a = 1", 12);
        broken(0, "~ ~ a = 1", 1);
        broken(1, "~ ~ a = 1", 12);
        broken(3, "~ a = 1 & b = 1", 2, 4);
        broken(0, "~ {a = 1 & b = 1}", 2, 4);
        Edges.terms("A -> B is broken by what B is, if A is not broken, otherwise by 0; it goes behind |, and to the right");
        broken(3, "a = 1 -> b = 1", 1, 4);
        broken(0, "a = 1 -> b = 1", 2, 4);
        broken(0, "a = 1 -> b = 1", 2, 1);
        broken(3, "a = 1 | c = 2 -> b = 1", 5, 4, 2);
        broken(0, "a = 1 -> b = 1 -> c = 1", 1, 2, 3);
        broken(2, "a = 1 -> b = 1 -> c = 1", 1, 1, 3);
        broken(0, "a = 1 -> b = 1 -> c = 1", 2, 1, 3);
        broken(2, "{a = 1 -> b = 1} -> c = 1", 2, 2, 3);
        broken(0, "{a = 1 -> b = 1} -> c = 1", 1, 2, 3);
    }

    private static void all() {
        Edges.terms("all is broken by how many NAMES there are less how many different values they have");
        broken(0, "all(a)", 1);
        broken(0, "all(a, b, c, d)", 3, 2, 1, 0);
        broken(1, "all(a, b, c, d)", 3, 2, 1, 3);
        broken(2, "all(a, b, c, d)", 3, 2, 3, 2);
        broken(2, "all(a, b, c, d)", 3, 3, 3, 2);
        broken(3, "all(a, b, c, d)", 3, 3, 3, 3);
        broken(1, "all(a, a)", 3);
        broken(11, "all(" + Edges.repeat("a", 12, ",") + ")", 3);
        broken(10, "all(" + Edges.repeat("a", 11, ",") + ", b)", 3, 4);
        broken(0, "all(a, b)", -3, 3);
    }

    private static void row() {
        Edges.terms("row is broken by the least number of places at which values and a ROW differ");
        broken(0, "row(a : (3))", 3);
        broken(1, "row(a : (3))", -3);
        broken(0, "row(a : (-3))", -3);
        broken(0, "row(a, b, c : (1, 2, 3), (3, 2, 1))", 3, 2, 1);
        broken(1, "row(a, b, c : (1, 2, 3), (3, 2, 1))", 3, 2, 0);
        broken(2, "row(a, b, c : (1, 2, 3), (3, 2, 1))", 2, 3, 1);
        broken(3, "row(a, b, c : (1, 2, 3), (3, 2, 1))", 2, 3, 2);
        broken(0, "row(a : " + Edges.repeat("(5)", 39, ",") + ", (6))", 6);
        broken(12, "row(" + Edges.repeat("a", 12, ",") + " : (" + Edges.repeat("5", 12, ",") + "))", 6);
        broken(1, "row(a, a : (1, 2))", 1);
    }

    private static void lex() {
        Edges.terms("lex is broken by 1, if at the first place where they differ the first NAMES have the greater value");
        broken(0, "lex(a : b)", 1, 2);
        broken(0, "lex(a : b)", 2, 2);
        broken(1, "lex(a : b)", 3, 2);
        broken(0, "lex(a, b : c, d)", 1, 3, 2, 0);
        broken(1, "lex(a, b : c, d)", 2, 0, 1, 3);
        broken(0, "lex(a, b : c, d)", 1, 0, 1, 1);
        broken(0, "lex(a, b : c, d)", 1, 1, 1, 1);
        broken(1, "lex(a, b : c, d)", 1, 2, 1, 1);
        broken(1, "lex(a : b)", -1, -2);
        broken(1, "lex(" + Edges.repeat("a", 11, ",") + ", b : " + Edges.repeat("a", 12, ",") + ")", 1, 2);
        broken(0, "lex(" + Edges.repeat("a", 11, ",") + ", b : " + Edges.repeat("a", 12, ",") + ")", 2, 1);
    }

    private static void ring() {
        Edges.terms("ring: all values are 0 .. n - 1, no two the same, and those not their own number lie in one round");
        broken(0, "ring(a)", 0);
        broken(1, "ring(a)", 1);
        broken(1, "ring(a)", -1);
        broken(0, "ring(a, b)", 0, 1);
        broken(0, "ring(a, b)", 1, 0);
        broken(1, "ring(a, b)", 0, 0);
        broken(1, "ring(a, b)", 1, 2);
        broken(1, "ring(a, b)", -1, 0);
        broken(0, "ring(a, b, c, d)", 0, 1, 2, 3);
        broken(0, "ring(a, b, c, d)", 1, 2, 3, 0);
        broken(0, "ring(a, b, c, d)", 0, 3, 1, 2);
        broken(0, "ring(a, b, c, d)", 3, 1, 2, 0);
        broken(1, "ring(a, b, c, d)", 1, 0, 3, 2);
        broken(1, "ring(a, b, c, d)", 3, 2, 1, 0);
        broken(1, "ring(a, b, c, d)", 4, 2, 1, 0);
        broken(1, "ring(a, a)", 0);
        StringBuilder text = new StringBuilder();
        StringBuilder names = new StringBuilder();
        for (int i = 0; i < 12; i++) {
            text.append("var v").append(i).append(" in {").append((i + 1) % 12).append("};");
            names.append(i > 0 ? "," : "").append('v').append(i);
        }
        PlanningHouse x = Edges.with(text + "rule r at 1*1: ring(" + names + ");");
        Edges.due(x, "broken(0, 0)", 0);
        x = Edges.with(text.toString().replace("{0}", "{9}").replace("{10}", "{0}") + "rule r at 1*1: ring(" + names + ");");
        Edges.due(x, "broken(0, 0)", 1);
    }

    private static void auto() {
        Edges.terms("auto: from state 0 each value leads on by the first ARROW that fits, to one of the STATES");
        broken(0, "auto(a : (0, 1, 0) : 0)", 1);
        broken(1, "auto(a : (0, 1, 0) : 0)", 2);
        broken(1, "auto(a : (0, 1, 0) : 1)", 1);
        broken(1, "auto(a : (1, 1, 1) : 1)", 1);
        broken(0, "auto(a : (0, 1, 9) : 9)", 1);
        broken(0, "auto(a, b : (0, 1, 9), (9, -1, 4) : 3, 4)", 1, -1);
        broken(1, "auto(a, b : (0, 1, 9), (9, -1, 4) : 9)", 1, -1);
        broken(1, "auto(a, b : (0, 1, 9), (8, -1, 4) : 4)", 1, -1);
        broken(1, "auto(a : (0, 1, 2), (0, 1, 3) : 3)", 1);
        broken(0, "auto(a : (0, 1, 2), (0, 1, 3) : 2)", 1);
        broken(1, "auto(a, b : (0, 1, 2), (0, 1, 3), (3, 1, 4) : 4)", 1, 1);
        broken(0, "auto(a : " + Edges.repeat("(0,5,1)", 39, ",") + ", (0,6,2) : 2)", 6);
        broken(0, "auto(a : (0,1,5) : 9,8,7,6,4,3,2,1,0,5)", 1);
        broken(0, "auto(" + Edges.repeat("a", 12, ",") + " : (0, 1, 1), (1, 1, 0) : 0)", 1);
        broken(1, "auto(" + Edges.repeat("a", 11, ",") + " : (0, 1, 1), (1, 1, 0) : 0)", 1);
    }

    private static void busy() {
        Edges.terms("busy: a TASK takes its height from its value on, as many times as its duration");
        broken(0, "busy(3 : (a, 1, 3))", 5);
        broken(1, "busy(2 : (a, 1, 3))", 5);
        broken(3, "busy(0 : (a, 1, 3))", -3);
        broken(0, "busy(0 : (a, 0, 3))", 5);
        broken(0, "busy(0 : (a, 3, 0))", 5);
        Edges.terms("busy is broken by as much as the greatest sum of heights at one time is above the NUMBER");
        for (int b = -3; b <= 6; b++) {
            boolean meet = b < 1 + 3 && 1 < b + 2;
            broken(meet ? 2 : 0, "busy(3 : (a, 3, 3), (b, 2, 2))", 1, b);
            broken(meet ? 2 : 0, "busy(3 : (b, 2, 2), (a, 3, 3))", 1, b);
        }
        broken(2, "busy(4 : (a, 4, 2), (b, 4, 2), (c, 4, 2))", 0, 2, 3);
        broken(0, "busy(4 : (a, 3, 2), (b, 4, 2), (c, 4, 2))", 0, 2, 3);
        broken(40 * 9999, "busy(0 : " + Edges.repeat("(a, 9999, 9999)", 40, ",") + ")", 3);
        broken(39 * 9999, "busy(9999 : " + Edges.repeat("(a, 9999, 9999)", 40, ",") + ")", 3);
    }

    private static void apart() {
        Edges.terms("apart: x < x' + width', x' < x + width, y < y' + height', y' < y + height");
        for (int c = -3; c <= 5; c++) {
            boolean wide = 1 < c + 3 && c < 1 + 2;
            broken(wide ? 1 : 0, "apart((a, b, 2, 1), (c, b, 3, 1))", 1, 0, c);
            broken(wide ? 1 : 0, "apart((c, b, 3, 1), (a, b, 2, 1))", 1, 0, c);
            broken(wide ? 1 : 0, "apart((b, a, 1, 2), (b, c, 1, 3))", 1, 0, c);
            broken(wide ? 1 : 0, "apart((b, c, 1, 3), (b, a, 1, 2))", 1, 0, c);
        }
        broken(0, "apart((a, b, 1, 1))", 0, 0);
        broken(0, "apart((a, b, 0, 1), (a, b, 0, 1))", 0, 0);
        broken(0, "apart((a, b, 0, 1), (a, b, 2, 1))", 0, 0);
        broken(1, "apart((a, b, 0, 1), (c, b, 2, 1))", 1, 0, 0);
        broken(0, "apart((a, b, 0, 1), (c, b, 1, 1))", 1, 0, 0);
        broken(1, "apart((a, b, 1, 0), (a, c, 1, 2))", 1, 1, 0);
        broken(3, "apart((a, b, 1, 1), (a, b, 1, 1), (a, b, 1, 1))", 1, 1);
        broken(780, "apart(" + Edges.repeat("(a, b, 9999, 9999)", 40, ",") + ")", 1, 1);
    }

    private static void behindLists() {
        Edges.terms("what stands before and behind a list, a pick, a min or a max counts for itself");
        sum(6, "pick(a : 5, -6, 8) + b", 0, 1);
        sum(1, "pick(a : 5, -6, 8) + b", 3, 1);
        sum(1, "pick(a : 5, -6, 8) * 7 + b", 3, 1);
        sum(2, "pick(a - 1 : 0, 2) * pick(b : 1)", 2, 0);
        sum(3, "5 - min(2, 3)");
        sum(2, "5 - max(2, 3)");
        sum(105, "100 + max(5)");
        sum(-1, "2 * min(3, 4) - max(7, a) + min(a)", 0);
        sum(-4, "min(1, 2, 3) - max(1, 2, 3) - min(a, b)", 2, 3);
        broken(3, "all(a, b) & c = 1", 1, 2, 4);
        broken(4, "c = 1 & all(a, b)", 1, 1, 4);
        broken(2, "row(a, b : (5, 5)) & a = a", 1, 0);
        broken(5, "row(a, b : (5, 5)) & c = 1", 1, 0, 4);
        broken(2, "row(a, b : (5, 5), (1, 3)) & c = 1", 1, 0, 2);
        broken(4, "lex(a : b) & c = 1", 2, 1, 4);
        broken(3, "lex(a, b : b, a) & c = 1", 1, 2, 4);
        broken(4, "ring(a, b) & c = 1", 1, 1, 4);
        broken(4, "auto(a : (0, 2, 1) : 1) & c = 1", 1, 1, 4);
        broken(3, "auto(a : (0, 1, 1) : 1) & c = 1", 1, 1, 4);
        broken(4, "busy(0 : (a, 1, 1)) & c = 1", 1, 1, 4);
        broken(4, "apart((a, b, 1, 1), (a, b, 1, 1)) & c = 1", 1, 1, 4);
        broken(5, "all(a, b) & all(b, a) & c = 1", 1, 1, 4);
    }

    private static void scores() {
        Edges.terms("the score: weight times what breaks it, of all rules of this level, and of all aims of it");
        PlanningHouse x = Edges.with("var a in 0..9; rule r at 0*1: a = 0; rule s at 0*1000: a < 9; rule t at 1*3: a = 2;"
            + "rule u at 2*5: a # 4; aim m at 1: - a; aim n at 1: 2 * a; aim o at 2: a - 7;");
        int[][] due = {{0, 0, 6, -7}, {4, 4, 10, 2}, {9, 1009, 30, 2}};
        for (int[] row : due) {
            Edges.put(x, row[0]);
            for (int level = 0; level < 3; level++) {
                Edges.due(x, "score(0, " + level + ")", row[level + 1]);
            }
        }
        StringBuilder most = new StringBuilder("var a in 0..0;");
        for (int r = 0; r < 24; r++) {
            most.append("rule r").append(r).append(" at ").append(r < 12 ? 0 : 1).append("*1000: 1000*1000 < 0-1000*1000;");
        }
        for (int m = 0; m < 6; m++) {
            most.append("aim m").append(m).append(" at ").append(1 + m % 2).append(": 0-1000*1000;");
        }
        x = Edges.with(most.toString());
        Edges.due(x, "score(0, 0)", 12 * 1000 * 2000001L);
        Edges.due(x, "score(0, 1)", 12 * 1000 * 2000001L - 3000000);
        Edges.due(x, "score(0, 2)", -3000000);
        Edges.terms("a plan without rules and aims has the score 0, and is feasible");
        x = Edges.with("var a in 0..1;");
        for (int level = 0; level < 3; level++) {
            Edges.due(x, "score(0, " + level + ")", 0);
            Edges.due(x, "best(0, " + level + ")", 0);
        }
        Edges.due(x, "feasible(0)", 1);
        Edges.terms("FEASIBLE: no rule at level 0 is broken, those of levels 1 and 2 may be");
        x = Edges.with("var a in 0..2; rule r at 0*1: a # 1; rule s at 1*1: a = 9; rule t at 2*1: a = 9;");
        Edges.due(x, "feasible(0)", 1);
        Edges.put(x, 1);
        Edges.due(x, "feasible(0)", 0);
        Edges.put(x, 2);
        Edges.due(x, "feasible(0)", 1);
    }

    private static void better() {
        Edges.terms("BETTER: less at level 1, or the same there and less at 2");
        PlanningHouse x = Edges.with("var a in 0..3; aim m at 1: pick(a : 5, 4, 4, 4); aim n at 2: pick(a : 0, 9, 8, 8);");
        Edges.due(x, "solve(0)", 1);
        Edges.plan(x, 0, 2);
        Edges.due(x, "best(0, 1)", 4);
        Edges.due(x, "best(0, 2)", 8);
        Edges.due(x, "bests(0)", 2);
        x = Edges.with("var a in 0..2; aim m at 2: pick(a : 5, -5, 0); rule r at 0*1: a # 1;");
        Edges.due(x, "solve(0)", 1);
        Edges.plan(x, 0, 2);
        Edges.terms("BETTER: less at level 0 goes before all else, in a search");
        x = Edges.with("var a in 0..1; rule r at 0*1: a = 1; aim m at 1: a * 9999; aim n at 2: a * 9999;");
        Edges.due("taken", x.search(0, 0, 0, 1, 30) > 0 ? 1 : 0, 1);
        Edges.plan(x, 0, 1);
        Edges.terms("scores beyond the int are told apart");
        String far = " at 1*1000: 1000*1000 = (2*b-1)*1000*1000; ";
        x = Edges.with("var a in 0..1; var b in 0..1; rule r" + far + "rule s" + far + "rule t" + far + "aim m at 1: 1 - a;");
        Edges.due(x, "score(0, 1)", 6000000001L);
        Edges.due(x, "whyNot(0, 1, 0, 1)", 6000000000L);
        Edges.due(x, "solve(0)", 1);
        Edges.plan(x, 0, 1, 1);
    }

    private static void first() {
        Edges.terms("FIRST is the plan with the earlier place where they differ first, vars in order, values as the text has them");
        PlanningHouse x = Edges.with("var b in {2, -1, 0}; var a in {1, 0};");
        int[][] plans = {{2, 1}, {2, 0}, {-1, 1}, {-1, 0}, {0, 1}, {0, 0}};
        for (int k = 0; k < plans.length; k++) {
            Edges.due(x, "feasibleAt(0, " + k + ")", 1);
            Edges.plan(x, 0, plans[k]);
            Edges.due(x, "bestAt(0, " + k + ")", 1);
            Edges.plan(x, 0, plans[k]);
        }
        Edges.due(x, "feasibleAt(0, 6)", 0);
        Edges.due(x, "bestAt(0, 6)", 0);
    }

    private static void beginning() {
        Edges.terms("at first the plan at hand has of each var the first value, none is pinned, each COST is 1, no FUTURES");
        PlanningHouse x = Edges.with("fact f = 4; var a in {5, 1}; var b in -2..0; rule r at 0*1: a = 1 & b = f - 4;");
        Edges.plan(x, 0, 5, -2);
        Edges.due(x, "count(0, 5)", 6);
        Edges.due(x, "count(0, 7)", 0);
        Edges.due(x, "near(0, false)", 2);
        Edges.plan(x, 0, 1, 0);
        Edges.due(x, "pin(0, 0, false)", 0);
        Edges.due(x, "pin(0, 1, false)", 0);
        Edges.due(x, "weigh(0, 0, 3)", 1);
        Edges.due(x, "weigh(0, 1, 3)", 1);
        Edges.terms("a problem that gets a number again has nothing of the one before");
        x.change(0, 0, 5);
        x.pin(0, 0, true);
        x.future(0, 9);
        x.told(0, 0, 0, 9);
        Edges.due(x, "solve(0)", 0);
        Edges.due(x, "drop(0)", 1);
        Edges.due("problem()", Edges.read(x, "fact f = 4; var a in {5, 1}; var b in -2..0; "
            + "rule r at 0*1: a = 1 & b = f - 4;"), 0);
        Edges.plan(x, 0, 5, -2);
        Edges.due(x, "fact(0, 0)", 4);
        Edges.due(x, "count(0, 5)", 6);
        Edges.due(x, "count(0, 7)", 0);
        Edges.due(x, "weigh(0, 0, 1)", 1);
        Edges.due(x, "solve(0)", 1);
        Edges.due(x, "future(0, 2)", 0);
        Edges.due(x, "expected(0, 0)", 0);
        Edges.terms("ALLOWED are all plans that have the values at hand of pinned vars");
        x.pin(0, 0, true);
        Edges.due(x, "feasibles(0)", 1);
        Edges.put(x, 5);
        Edges.due(x, "feasibles(0)", 0);
        Edges.due(x, "count(0, 5)", 3);
        x.pin(0, 1, true);
        Edges.due(x, "count(0, 5)", 1);
        Edges.due(x, "count(0, 4)", 6);
    }
}
