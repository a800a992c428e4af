import java.util.Arrays;

/** Edges of promises 1 to 52, 57 and 58, and of what "Terms" says of calls that name what there is not. */
final class CallEdges {
    // 18 plans. Feasible are, with each c: 0 2, 0 -1, 1 2, 1 0, 1 -1, 2 0, 2 -1; the best is 1 0 5, with 0 and 5.
    private static final String SHOP = "fact cap = 3; var a in 0..2; var b in { 2, 0, -1 }; var c in 5..6; "
        + "rule r0 at 0*2: a # b; rule r2 at 1*10: a >= b; rule r1 at 0*3: a + b <= cap; rule r3 at 2*1: c = 5; "
        + "aim cost at 2: a * c; aim gain at 1: - b;";
    private static final String[] NO_PROBLEM = {"-1", "1", "3", "4", "MIN", "MAX"};
    private static final String[] NO_LEVEL = {"-1", "3", "MIN", "MAX"};

    private CallEdges() {
    }

    /** Problems 0 and 2 (1 is gone, 3 never was), futures, a row, a search, a board, a fault, a tape. */
    private static PlanningHouse rich() {
        PlanningHouse x = Edges.with(SHOP);
        Edges.read(x, SHOP);
        Edges.read(x, "var q in 4..6; rule r at 0*1: q = 9;");
        x.drop(1);
        Edges.read(x, "var zz in 0..no;");
        x.future(0, 3);
        x.told(0, 0, 0, 4);
        x.future(0, 2);
        x.save(0);
        x.search(0, 0, 0, 5, 3);
        x.put(0, 0, 2);
        x.has(0, 0, 1, false);
        Edges.type(x, "a");
        return x;
    }

    static void run() {
        newObject();
        noSuchProblem();
        tapes();
        fullTape();
        problems();
        faults();
        drops();
        counts();
        finds();
        letters();
        shownTokens();
        ranges();
        rules();
        facts();
        plansAtHand();
        pins();
        costs();
        scores();
        left();
        leftByRules();
        hopeless();
        best();
        having();
        mends();
        fronts();
        frontsOfAllSizes();
        frontsOfAllPlans();
        near();
        clashes();
        without();
        whyNot();
        futures();
        told();
        robust();
        robustByLevels();
        expected();
        regret();
        boards();
    }

    private static void refused(long answer, String... calls) {
        Edges.refused(CallEdges::rich, answer, calls);
    }

    /** A call with a ? for each thing that may name what there is not. */
    private static void refusedFor(String[] names, long answer, String... calls) {
        for (String call : calls) {
            for (String name : names) {
                refused(answer, call.replace("?", name));
            }
        }
    }

    private static void newObject() {
        Edges.promise(1, "an empty tape, no problems, an empty store, nothing found yet; the board shows 0 / 1");
        PlanningHouse x = new PlanningHouse();
        Edges.due(x, "tapeAt(0)", Edges.NONE);
        Edges.due(x, "cut(0)", 0);
        for (int p = 0; p < 4; p++) {
            Edges.due(x, "count(" + p + ", 4)", Edges.NONE);
            Edges.due(x, "drop(" + p + ")", 0);
        }
        Edges.due(x, "rows()", 0);
        Edges.due(x, "size()", 0);
        Edges.due(x, "byteAt(0)", Edges.NONE);
        Edges.due(x, "crash(0)", 0);
        Edges.due(x, "fault()", 0);
        for (int what = 0; what < 3; what++) {
            Edges.due(x, "searched(" + what + ")", Edges.NONE);
        }
        Edges.board(x, 0, 1);
        Edges.promise(1, "objects have nothing to do with one another");
        PlanningHouse other = rich();
        Edges.same("a rich one beside it", Edges.witness(x), Edges.witness(new PlanningHouse()));
        Edges.same("a new one beside it", Edges.witness(other), Edges.witness(rich()));
        Edges.terms("the constants");
        Edges.due("NONE", PlanningHouse.NONE, -1);
        Edges.due("NO", PlanningHouse.NO, -9223372036854775808L);
        Edges.due("FULL", PlanningHouse.FULL, -100000);
    }

    private static void noSuchProblem() {
        Edges.terms("what names a problem that there is not answers NONE, and changes nothing");
        refusedFor(NO_PROBLEM, Edges.NONE, "count(?, 0)", "find(?)", "letter(?, 1, 0, 0)", "shown(?, 0, 0)", "rule(?, 0, 0)",
            "weigh(?, 0, 2)", "broken(?, 0)", "reach(?)", "hopeless(?)", "solve(?)", "bests(?)", "feasibles(?)",
            "has(?, 0, 1, true)", "has(?, 0, 1, false)", "choices(?, 0)", "mend(?, 1)", "front(?)", "near(?, true)",
            "near(?, false)", "clash(?)", "fewest(?)", "relax(?)", "because(?, 0, 0)", "future(?, 1)", "unfold(?)",
            "robust(?)", "search(?, 0, 1, 1, 1)", "prove(?)", "save(?)");
        Edges.terms("what names a problem that there is not answers NO, and changes nothing");
        refusedFor(NO_PROBLEM, Edges.NO, "range(?, 0, 0)", "fact(?, 0)", "value(?, 0)", "aim(?, 0)", "score(?, 0)",
            "best(?, 0)",
            "frontAt(?, 0, 0)", "without(?, 0, 0)", "whyNot(?, 0, 0, 0)", "expected(?, 1)", "regret(?, 1)");
        Edges.terms("what names a problem that there is not answers false, and changes nothing");
        refusedFor(NO_PROBLEM, 0, "drop(?)", "change(?, 0, 1)", "put(?, 0, 1)", "pin(?, 0, true)", "pin(?, 0, false)",
            "feasible(?)",
            "isLeft(?, 0, 0)", "bestAt(?, 0)", "feasibleAt(?, 0)", "frontPlan(?, 0)", "told(?, 0, 0, 1)");
        Edges.terms("check() answers FULL without the problem, and changes nothing");
        refusedFor(NO_PROBLEM, Edges.FULL, "check(?)");
    }

    // ---- the tape

    private static void tapes() {
        Edges.promise(2, "the n lowest bytes of w, the highest of them first");
        for (int n = 1; n <= 8; n++) {
            PlanningHouse x = new PlanningHouse();
            Edges.due("type(.., " + n + ")", x.type(0x8182838485868788L, n), n);
            for (int i = 0; i < n; i++) {
                Edges.due(x, "tapeAt(" + i + ")", 0x88 - (n - 1 - i));
            }
            Edges.due(x, "tapeAt(" + n + ")", Edges.NONE);
            Edges.due(x, "type(-1, 1)", n + 1);
            Edges.due(x, "tapeAt(" + n + ")", 255);
        }
        Edges.promise(2, "NONE: n is not 1 .. 8; nothing changes");
        refused(Edges.NONE, "type(1, 0)", "type(1, 9)", "type(1, -1)", "type(1, MIN)", "type(1, MAX)");
        Edges.promise(3, "the tape keeps its first n bytes: how many it had");
        PlanningHouse x = new PlanningHouse();
        Edges.type(x, "abcde");
        Edges.due(x, "cut(5)", 5);
        Edges.due(x, "cut(4)", 5);
        Edges.due(x, "tapeAt(3)", 'd');
        Edges.due(x, "tapeAt(4)", Edges.NONE);
        Edges.due(x, "cut(0)", 4);
        Edges.due(x, "tapeAt(0)", Edges.NONE);
        Edges.due(x, "cut(0)", 0);
        Edges.due(x, "type(0, 2)", 2);
        Edges.due(x, "tapeAt(1)", 0);
        Edges.promise(3, "NONE: n is below 0 or more than it has; nothing changes");
        refused(Edges.NONE, "cut(-1)", "cut(2)", "cut(20000)", "cut(MIN)", "cut(MAX)");
        Edges.refused(PlanningHouse::new, Edges.NONE, "cut(1)", "cut(-1)");
        Edges.promise(4, "an exclusive-or with a number, whose lowest eight bits count");
        x = new PlanningHouse();
        Edges.type(x, "abc");
        Edges.due(x, "spoil(0, 0)", 'a');
        Edges.due(x, "spoil(0, 255)", 'a' ^ 255);
        Edges.due(x, "spoil(0, -1)", 'a');
        Edges.due(x, "spoil(2, 256)", 'c');
        Edges.due(x, "spoil(2, MIN)", 'c');
        Edges.due(x, "spoil(2, MAX)", 'c' ^ 255);
        Edges.due(x, "tapeAt(0)", 'a');
        Edges.due(x, "tapeAt(1)", 'b');
        Edges.due(x, "tapeAt(2)", 'c' ^ 255);
        Edges.promise(4, "NONE when there is no byte i; nothing changes");
        refused(Edges.NONE, "spoil(-1, 1)", "spoil(1, 1)", "spoil(20000, 1)", "spoil(MIN, 1)", "spoil(MAX, 1)");
        Edges.promise(5, "NONE when there is no byte i");
        refused('a', "tapeAt(0)");
        refused(Edges.NONE, "tapeAt(-1)", "tapeAt(1)", "tapeAt(20000)", "tapeAt(MIN)", "tapeAt(MAX)");
    }

    private static PlanningHouse filled(int n) {
        PlanningHouse x = new PlanningHouse();
        for (int i = 0; i < n / 8; i++) {
            x.type(i, 8);
        }
        for (int i = 0; i < n % 8; i++) {
            x.type(i, 1);
        }
        return x;
    }

    private static void fullTape() {
        Edges.promise(2, "FULL: there would be more than 20000; nothing changes");
        for (int n = 1; n <= 8; n++) {
            PlanningHouse x = filled(20000 - n + 1);
            Edges.due(x, "type(7, " + n + ")", Edges.FULL);
            Edges.due(x, "cut(" + (20000 - n) + ")", 20000 - n + 1);
            Edges.due(x, "type(7, " + n + ")", 20000);
            Edges.due(x, "type(7, 1)", Edges.FULL);
            Edges.due(x, "type(7, 8)", Edges.FULL);
            Edges.due(x, "tapeAt(19999)", 7);
            Edges.due(x, "tapeAt(20000)", Edges.NONE);
            Edges.due(x, "spoil(19999, 1)", 6);
            Edges.due(x, "spoil(20000, 1)", Edges.NONE);
            Edges.due(x, "cut(20001)", Edges.NONE);
            Edges.due(x, "cut(20000)", 20000);
        }
        Edges.promise(2, "NONE goes before FULL");
        PlanningHouse x = filled(20000);
        Edges.due(x, "type(7, 9)", Edges.NONE);
        Edges.due(x, "type(7, 0)", Edges.NONE);
    }

    // ---- problems

    private static void problems() {
        Edges.promise(6, "its number is the least that is free");
        PlanningHouse x = new PlanningHouse();
        for (int p = 0; p < 4; p++) {
            Edges.due("problem()", Edges.read(x, "var v" + p + " in 0.." + p + ";"), p);
            Edges.due(x, "cut(0)", 0);
        }
        for (int p = 3; p >= 0; p--) {
            Edges.due(x, "drop(" + p + ")", 1);
            Edges.due("problem()", Edges.read(x, "var a in 0..9;"), p);
            Edges.due(x, "count(" + p + ", 4)", 10);
        }
        Edges.promise(6, "FULL, and the tape stays: there are 4; nothing changes");
        Edges.Maker four = () -> {
            PlanningHouse y = rich();
            Edges.read(y, "var a in 0..1;");
            Edges.read(y, "var a in 0..1;");
            Edges.type(y, "var b in 0..zz;");
            return y;
        };
        Edges.refused(four, "problem()", Edges.FULL);
        Edges.promise(6, "-1 less the place of its FAULT, and the tape is empty then; all else stays");
        x = rich();
        x.cut(0);
        Edges.type(x, "var b in 0..zz;");
        Edges.due(x, "problem()", -13);
        Edges.type(x, "a");
        Edges.same("a text with a fault", Edges.witness(x), Edges.witness(rich()));
        x = new PlanningHouse();
        Edges.due(x, "problem()", -1);
        Edges.due(x, "fault()", 2);
        Edges.due("problem()", Edges.read(x, "var a in 0..1;"), 0);
        Edges.due(x, "fault()", 0);
    }

    private static void faults() {
        Edges.promise(7, "0 if it found none, or there was no such call");
        PlanningHouse x = new PlanningHouse();
        Edges.due(x, "fault()", 0);
        String[] texts = {"?", "a", "var a in 0..1; var a in 0..1;", "aim m at 1: a;", "var a in 5..1;", "var a in 0..20;",
            "aim m at 1: " + "(".repeat(13)};
        for (int code = 1; code <= 7; code++) {
            Edges.due("problem() of " + texts[code - 1], Edges.read(x, texts[code - 1]) < 0 ? 1 : 0, 1);
            Edges.due(x, "fault()", code);
            Edges.due(x, "fault()", code);
        }
        Edges.due("problem()", Edges.read(x, "var a in 0..1;"), 0);
        Edges.due(x, "fault()", 0);
        Edges.promise(7, "the latest problem() or check() that read a text");
        Edges.type(x, ".");
        Edges.due(x, "check(0)", -1);
        Edges.due(x, "fault()", 8);
        Edges.due(x, "check(1)", Edges.FULL);
        Edges.due(x, "fault()", 8);
        for (int p = 1; p < 4; p++) {
            Edges.due("problem()", Edges.read(x, "var a in 0..1;"), p);
        }
        Edges.type(x, ".");
        Edges.due(x, "check(3)", -1);
        Edges.due(x, "problem()", Edges.FULL);
        Edges.due(x, "fault()", 8);
        Edges.due(x, "solve(0)", 1);
        Edges.due(x, "prove(0)", 6);
        Edges.due(x, "fault()", 8);
        Edges.due(x, "check(0)", 0);
        Edges.due(x, "fault()", 0);
    }

    private static void drops() {
        Edges.promise(8, "the problem is gone, and its number is free; others stay");
        PlanningHouse x = rich();
        Edges.due(x, "drop(0)", 1);
        Edges.due(x, "drop(0)", 0);
        Edges.due(x, "count(0, 0)", Edges.NONE);
        Edges.due(x, "count(2, 4)", 3);
        Edges.due(x, "solve(0)", Edges.NONE);
        Edges.due(x, "save(0)", Edges.NONE);
        Edges.due(x, "rows()", 1);
        Edges.due(x, "load(0)", 0);
        Edges.due(x, "count(0, 7)", 0);
        Edges.promise(8, "false when there is none");
        refusedFor(NO_PROBLEM, 0, "drop(?)");
    }

    private static void counts() {
        Edges.promise(9, "what = 0 .. 8, and NONE for others");
        int[] due = {1, 3, 4, 2, 18, 18, 2, 2, SHOP.length()};
        for (int what = 0; what < due.length; what++) {
            refused(due[what], "count(0, " + what + ")");
        }
        refused(Edges.NONE, "count(0, -1)", "count(0, 9)", "count(0, MIN)", "count(0, MAX)");
        Edges.promise(9, "0 facts, rules, aims, hard rules, futures");
        PlanningHouse x = Edges.with("var a in 0..0;");
        int[] least = {0, 1, 0, 0, 1, 1, 0, 0, 14};
        for (int what = 0; what < least.length; what++) {
            Edges.due(x, "count(0, " + what + ")", least[what]);
        }
    }

    private static void finds() {
        Edges.promise(10, "its number for a fact, 100 and that for a var, 200 for a rule, 300 for an aim");
        StringBuilder text = new StringBuilder();
        String[] sorts = {"fact f# = 1;", "var v# in {1};", "rule r# at 2*1: 1=1;", "aim m# at 1: 1;"};
        int[] many = {16, 12, 24, 6};
        for (int sort = 0; sort < 4; sort++) {
            for (int k = 0; k < many[sort]; k++) {
                text.append(sorts[sort].replace("#", "" + k));
            }
        }
        PlanningHouse x = Edges.with(text.toString());
        for (int sort = 0; sort < 4; sort++) {
            for (int k = 0; k < many[sort]; k++) {
                x.cut(0);
                Edges.type(x, "fvrm".charAt(sort) + "" + k);
                Edges.due("find(0) of sort " + sort + " number " + k, x.find(0), 100 * sort + k);
            }
            x.cut(0);
            Edges.type(x, "fvrm".charAt(sort) + "" + many[sort]);
            Edges.due("find(0) behind the last of sort " + sort, x.find(0), Edges.NONE);
        }
        Edges.promise(10, "all of the tape must be one NAME that is no WORD, without blanks; it stays");
        x = Edges.with("var a in 0..1; var abcdefgh in 0..1; var in1 in 0..1;");
        String[] tapes = {"a", "abcdefgh", "in1", "A", "abcdefg", "abcdefghi", "abcdefgha", "in", "var", "", " ", " a",
            "a ", "\na",
            "a\r", "a%", "%a", "a;", "a a", "1", "a1", "1a", "\u00e1", "\0a", "a\0"};
        int[] due = {100, 101, 102};
        for (int i = 0; i < tapes.length; i++) {
            x.cut(0);
            Edges.type(x, tapes[i]);
            Edges.due("find(0) of " + tapes[i], x.find(0), i < due.length ? due[i] : Edges.NONE);
            Edges.due("cut(0) of " + tapes[i], x.cut(0), tapes[i].length());
        }
        refused(100, "find(0)");
        refused(Edges.NONE, "find(2)");
    }

    private static void letters() {
        Edges.promise(11, "byte i of the NAME of fact (kind 0), var (1), rule (2), aim (3) k");
        String[][] names = {{"f", "Gg"}, {"abcdefgh", "z"}, {"Zz9"}, {"m0000000"}};
        PlanningHouse x = Edges.with("fact f = 1; fact Gg = 1; var abcdefgh in 0..1; var z in 0..1; "
            + "rule Zz9 at 1*1: 1 = 1; aim m0000000 at 1: 1;");
        for (int kind = 0; kind < 4; kind++) {
            for (int k = 0; k < names[kind].length; k++) {
                String name = names[kind][k];
                String call = "letter(0, " + kind + ", " + k + ", ";
                for (int i = 0; i < name.length(); i++) {
                    Edges.due(x, call + i + ")", name.charAt(i));
                }
                Edges.due(x, call + name.length() + ")", Edges.NONE);
                Edges.due(x, call + "-1)", Edges.NONE);
                Edges.due(x, call + "8)", Edges.NONE);
                Edges.due(x, call + "MIN)", Edges.NONE);
                Edges.due(x, call + "MAX)", Edges.NONE);
            }
            for (String k : new String[] {"-1", "" + names[kind].length, "MIN", "MAX"}) {
                Edges.due(x, "letter(0, " + kind + ", " + k + ", 0)", Edges.NONE);
            }
        }
        Edges.promise(11, "NONE when there is none such");
        refused(Edges.NONE, "letter(0, -1, 0, 0)", "letter(0, 4, 0, 0)", "letter(0, MIN, 0, 0)", "letter(0, MAX, 0, 0)");
    }

    private static void shownTokens() {
        Edges.promise(12, "all tokens of statement k as they stand there, one byte 32 between two, with its ;");
        PlanningHouse x = Edges.with("%r\n fact\tf=-0007 ;var  a in{0,-1,02}%x\n;rule r at 0*1:a<=f->~{a>=0}|a#1;aim m at 1:a-1;%");
        String[] shown = {"fact f = - 0007 ;", "var a in { 0 , - 1 , 02 } ;",
            "rule r at 0 * 1 : a <= f -> ~ { a >= 0 } | a # 1 ;",
            "aim m at 1 : a - 1 ;"};
        for (int k = 0; k < shown.length; k++) {
            String call = "shown(0, " + k + ", ";
            for (int i = 0; i < shown[k].length(); i++) {
                Edges.due(x, call + i + ")", shown[k].charAt(i));
            }
            Edges.due(x, call + shown[k].length() + ")", Edges.NONE);
            Edges.due(x, call + (shown[k].length() + 1) + ")", Edges.NONE);
            Edges.due(x, call + "-1)", Edges.NONE);
            Edges.due(x, call + "MIN)", Edges.NONE);
            Edges.due(x, call + "MAX)", Edges.NONE);
        }
        Edges.promise(12, "NONE when there is none such");
        for (String k : new String[] {"-1", "4", "MIN", "MAX"}) {
            Edges.due(x, "shown(0, " + k + ", 0)", Edges.NONE);
        }
        Edges.promise(12, "facts are shown as the text has them, also when they have changed");
        Edges.due(x, "change(0, 0, 5)", 1);
        Edges.due(x, "shown(0, 0, 9)", '-');
        refused('f', "shown(0, 0, 0)");
        Edges.promise(12, "each problem has its own text, whatever was read behind it");
        Edges.due("problem()", Edges.read(x, "var bb in 0..1;"), 1);
        Edges.type(x, "tape");
        for (int k = 0; k < shown.length; k++) {
            for (int i = 0; i < shown[k].length(); i++) {
                Edges.due(x, "shown(0, " + k + ", " + i + ")", shown[k].charAt(i));
            }
        }
        Edges.due(x, "find(0)", Edges.NONE);
        Edges.due(x, "shown(1, 0, 15)", '1');
        Edges.due(x, "shown(1, 0, 17)", ';');
        Edges.due(x, "shown(1, 0, 18)", Edges.NONE);
    }

    private static void ranges() {
        Edges.promise(13, "value k of the range of var v; NO when there is none such");
        StringBuilder list = new StringBuilder("{99");
        for (int k = 1; k < 20; k++) {
            list.append(", -").append(k);
        }
        PlanningHouse x = Edges.with("var a in -99..-80; var b in " + list + "}; var c in {5};");
        for (int k = 0; k < 20; k++) {
            Edges.due(x, "range(0, 0, " + k + ")", -99 + k);
            Edges.due(x, "range(0, 1, " + k + ")", k == 0 ? 99 : -k);
        }
        Edges.due(x, "range(0, 2, 0)", 5);
        for (String k : new String[] {"-1", "20", "MIN", "MAX"}) {
            Edges.due(x, "range(0, 0, " + k + ")", Edges.NO);
            Edges.due(x, "range(0, 1, " + k + ")", Edges.NO);
        }
        Edges.due(x, "range(0, 2, 1)", Edges.NO);
        for (String v : new String[] {"-1", "3", "12", "MIN", "MAX"}) {
            Edges.due(x, "range(0, " + v + ", 0)", Edges.NO);
        }
        refused(-1, "range(0, 1, 2)");
        refused(Edges.NO, "range(0, 1, 3)", "range(0, 3, 0)");
    }

    private static void rules() {
        Edges.promise(14, "what = 0 .. 3, and NONE for others");
        int[][] due = {{0, 2, 3, 1}, {1, 10, 3, 1}, {0, 3, 3, 1}, {2, 1, 4, 1}};
        for (int r = 0; r < 4; r++) {
            for (int what = 0; what < 4; what++) {
                refused(due[r][what], "rule(0, " + r + ", " + what + ")");
            }
        }
        refused(Edges.NONE, "rule(0, 0, -1)", "rule(0, 0, 4)", "rule(0, 0, MIN)", "rule(0, 0, MAX)");
        refused(Edges.NONE, "rule(0, -1, 0)", "rule(0, 4, 0)", "rule(0, 4, 3)", "rule(0, 24, 1)", "rule(0, MIN, 2)",
            "rule(0, MAX, 3)");
        Edges.promise(14, "the set of vars in it, also those that do not matter, in lists, and none");
        StringBuilder text = new StringBuilder("fact f = 1;");
        for (int v = 0; v < 12; v++) {
            text.append("var v").append(v).append(" in 0..1;");
        }
        PlanningHouse x = Edges.with(text + "rule r at 1*1: f = 1; rule s at 0*1000: v11 * 0 = 0; "
            + "rule t at 2*1: all(v0, v11, v3);"
            + "rule u at 1*1: row(v1 : (0)) | lex(v2 : v3) | ring(v4) | auto(v5 : (0,0,0) : 0) | busy(1 : (v6, 1, 1)) "
                + "| apart((v7, v8, 1, 1))"
            + "| [v9 = 0] = 1 | pick(v10 : 1) = 1; rule w at 1*1: v0 = f;");
        int[] sets = {0, 1 << 11, 1 | 1 << 11 | 8, 0x7fe, 1};
        int[] can = {0, 0, 1, 0, 1};
        for (int r = 0; r < sets.length; r++) {
            Edges.due(x, "rule(0, " + r + ", 2)", sets[r]);
            Edges.due(x, "rule(0, " + r + ", 3)", can[r]);
        }
        Edges.due(x, "rule(0, 1, 1)", 1000);
        Edges.promise(14, "whether any plan at all breaks it goes by the facts as they are, pinned or not");
        x.change(0, 0, 2);
        Edges.due(x, "rule(0, 0, 3)", 1);
        x = Edges.with("fact f = 4; var a in 0..3; rule r at 0*1: a < f; rule s at 1*1: a = a;");
        Edges.due(x, "rule(0, 0, 3)", 0);
        Edges.due(x, "rule(0, 1, 3)", 0);
        x.change(0, 0, 3);
        x.pin(0, 0, true);
        Edges.due(x, "rule(0, 0, 3)", 1);
        x.future(0, 1);
        x.told(0, 0, 0, 9);
        Edges.due(x, "rule(0, 0, 3)", 1);
    }

    // ---- plans, facts, pins

    private static void facts() {
        Edges.promise(15, "the value of fact f; NO when there is none");
        refused(3, "fact(0, 0)");
        refused(Edges.NO, "fact(0, -1)", "fact(0, 1)", "fact(0, 16)", "fact(0, MIN)", "fact(0, MAX)", "fact(2, 0)");
        StringBuilder text = new StringBuilder("var a in 0..1;");
        for (int f = 0; f < 16; f++) {
            text.append("fact f").append(f).append(" = -").append(f).append(';');
        }
        PlanningHouse x = Edges.with(text + "aim m at 1: f0 * 2 + f15; aim n at 2: f15 - 1; rule r at 2*3: a = f15;");
        for (int f = 0; f < 16; f++) {
            Edges.due(x, "fact(0, " + f + ")", -f);
        }
        Edges.due(x, "fact(0, 16)", Edges.NO);
        Edges.promise(16, "another value from now on: -9999 .. 9999");
        for (int value : new int[] {9999, -9999, 0, 1}) {
            Edges.due(x, "change(0, 15, " + value + ")", 1);
            Edges.due(x, "fact(0, 15)", value);
            Edges.due(x, "fact(0, 14)", -14);
            Edges.due(x, "aim(0, 0)", value);
            Edges.due(x, "best(0, 1)", value);
            long off = Math.min(Math.abs(value), Math.abs(value - 1));
            Edges.due(x, "best(0, 2)", value - 1 + 3 * off);
            Edges.due(x, "best(0, 2)", value - 1 + 3 * off);
        }
        Edges.promise(48, "of 16 facts the last can be told, too");
        Edges.due(x, "future(0, 2)", 0);
        Edges.due(x, "expected(0, 1)", 2);
        Edges.due(x, "told(0, 0, 15, 7)", 1);
        Edges.due(x, "expected(0, 1)", 14);
        Edges.due(x, "told(0, 0, 16, 7)", 0);
        Edges.promise(16, "false when it is none such; nothing changes");
        refused(0, "change(0, 0, 10000)", "change(0, 0, -10000)", "change(0, 0, MIN)", "change(0, 0, MAX)");
        refused(0, "change(0, -1, 1)", "change(0, 1, 1)", "change(0, 16, 1)", "change(0, MIN, 1)", "change(0, MAX, 1)",
            "change(2, 0, 1)");
    }

    private static void plansAtHand() {
        Edges.promise(17, "the value of var v in the plan at hand; NO when there is none");
        refused(2, "value(0, 0)");
        refused(4, "value(2, 0)");
        refused(Edges.NO, "value(0, -1)", "value(0, 3)", "value(0, 12)", "value(0, MIN)", "value(0, MAX)", "value(2, 1)");
        Edges.promise(18, "var v has a value of its range, also a pinned one");
        PlanningHouse x = rich();
        for (int value : new int[] {2, 0, -1}) {
            Edges.due(x, "put(0, 1, " + value + ")", 1);
            Edges.due(x, "value(0, 1)", value);
            x.pin(0, 1, true);
        }
        Edges.due(x, "count(0, 5)", 6);
        Edges.promise(18, "false when it is none of it; nothing changes");
        refused(0, "put(0, 2, 0)", "put(2, 0, 0)", "put(0, 0, -1)", "put(0, 0, 3)", "put(0, 1, 1)", "put(0, 1, -2)",
            "put(0, 1, 3)", "put(0, 2, 4)", "put(0, 2, 7)",
            "put(0, 0, MIN)", "put(0, 0, MAX)", "put(0, 0, 256)", "put(2, 0, 3)");
        refused(0, "put(0, -1, 0)", "put(0, 3, 0)", "put(0, 12, 0)", "put(0, MIN, 0)", "put(0, MAX, 0)");
    }

    private static void pins() {
        Edges.promise(19, "pinned, or not any more: whether it was");
        PlanningHouse x = Edges.with(SHOP);
        for (int v = 0; v < 3; v++) {
            Edges.due(x, "pin(0, " + v + ", false)", 0);
            Edges.due(x, "pin(0, " + v + ", true)", 0);
            Edges.due(x, "pin(0, " + v + ", true)", 1);
        }
        Edges.due(x, "count(0, 5)", 1);
        Edges.due(x, "pin(0, 1, false)", 1);
        Edges.due(x, "count(0, 5)", 3);
        Edges.due(x, "pin(0, 1, false)", 0);
        Edges.promise(19, "false when there is no such var; nothing changes");
        refused(0, "pin(0, -1, true)", "pin(0, 3, true)", "pin(0, 12, true)", "pin(0, 32, true)", "pin(0, MIN, true)",
            "pin(0, MAX, true)");
        refused(0, "pin(0, -1, false)", "pin(0, 3, false)", "pin(2, 1, true)");
    }

    private static void costs() {
        Edges.promise(20, "such a COST (0 .. 1000): what it was");
        PlanningHouse x = Edges.with(SHOP);
        Edges.due(x, "weigh(0, 2, 0)", 1);
        Edges.due(x, "weigh(0, 2, 1000)", 0);
        Edges.due(x, "weigh(0, 2, 1)", 1000);
        Edges.due(x, "weigh(0, 0, 1)", 1);
        Edges.promise(20, "NONE when it is none such; nothing changes");
        refused(Edges.NONE, "weigh(0, 0, -1)", "weigh(0, 0, 1001)", "weigh(0, 0, MIN)", "weigh(0, 0, MAX)");
        refused(Edges.NONE, "weigh(0, -1, 1)", "weigh(0, 3, 1)", "weigh(0, 12, 1)", "weigh(0, MIN, 1)", "weigh(0, MAX, 1)");
    }

    private static void scores() {
        Edges.promise(21, "by what the plan at hand breaks rule r; NONE when there is none");
        refused(0, "broken(0, 0)", "broken(0, 2)");
        refused(Edges.NONE, "broken(0, -1)", "broken(0, 4)", "broken(0, 24)", "broken(0, MIN)", "broken(0, MAX)",
            "broken(2, 1)");
        Edges.promise(22, "what aim a is in the plan at hand; NO when there is none");
        PlanningHouse x = Edges.with(SHOP);
        Edges.put(x, 2, -1, 6);
        Edges.due(x, "aim(0, 0)", 12);
        Edges.due(x, "aim(0, 1)", 1);
        refused(Edges.NO, "aim(0, -1)", "aim(0, 2)", "aim(0, 6)", "aim(0, MIN)", "aim(0, MAX)", "aim(2, 0)");
        Edges.promise(23, "the score of the plan at hand at a level; NO when there is no such level");
        Edges.due(x, "score(0, 0)", 0);
        Edges.due(x, "score(0, 1)", 1);
        Edges.due(x, "score(0, 2)", 13);
        refusedFor(NO_LEVEL, Edges.NO, "score(0, ?)");
        Edges.promise(24, "whether the plan at hand is feasible");
        Edges.due(x, "feasible(0)", 1);
        Edges.put(x, 2, 2, 6);
        Edges.due(x, "feasible(0)", 0);
        Edges.due(x, "score(0, 0)", 5);
        refused(0, "feasible(2)");
    }

    // ---- what rules leave

    private static void left() {
        Edges.promise(25, "how many values are LEFT, of all vars together");
        String chain = "fact f = 0; var a in 0..3; var b in 0..3; var c in 0..3; var d in 0..1; rule r at 0*1: a < b; "
            + "rule s at 0*1: b < c;"
            + "rule t at 1*1: d = 1; rule u at 0*1: f = 0;";
        PlanningHouse x = Edges.with(chain);
        Edges.due(x, "reach(0)", 2 + 2 + 2 + 2);
        Edges.promise(26, "whether value k is left, as things are now");
        int[] left = {3, 6, 12, 3};
        for (int v = 0; v < 4; v++) {
            for (int k = 0; k < (v == 3 ? 2 : 4); k++) {
                Edges.due(x, "isLeft(0, " + v + ", " + k + ")", left[v] >> k & 1);
            }
        }
        Edges.promise(26, "false when there is no such var or value");
        for (String k : new String[] {"-1", "4", "20", "32", "33", "MIN", "MAX"}) {
            Edges.due(x, "isLeft(0, 0, " + k + ")", 0);
        }
        Edges.due(x, "isLeft(0, 3, 2)", 0);
        for (String v : new String[] {"-1", "4", "12", "MIN", "MAX"}) {
            Edges.due(x, "isLeft(0, " + v + ", 0)", 0);
        }
        Edges.promise(25, "of a pinned var its value at hand");
        Edges.put(x, 1, 0, 0, 0);
        x.pin(0, 0, true);
        Edges.due(x, "reach(0)", 1 + 1 + 1 + 2);
        Edges.due(x, "isLeft(0, 1, 2)", 1);
        Edges.due(x, "isLeft(0, 1, 1)", 0);
        x.pin(0, 3, true);
        Edges.due(x, "reach(0)", 4);
        Edges.due(x, "isLeft(0, 3, 1)", 0);
        Edges.promise(25, "if one rule is broken by all plans that are left, all values go, also those of other vars");
        Edges.put(x, 2);
        Edges.due(x, "reach(0)", 0);
        for (int v = 0; v < 4; v++) {
            Edges.due(x, "isLeft(0, " + v + ", " + (v == 0 ? 2 : 0) + ")", 0);
        }
        x.pin(0, 0, false);
        x.change(0, 0, 1);
        Edges.due(x, "reach(0)", 0);
        x.change(0, 0, 0);
        Edges.due(x, "reach(0)", 2 + 2 + 2 + 1);
    }

    private static void leftByRules() {
        Edges.promise(25, "rules of levels 1 and 2 take nothing");
        Edges.due(Edges.with("var a in 0..2; rule r at 1*1: a = 9; rule s at 2*1: a = 9;"), "reach(0)", 3);
        Edges.due(Edges.with("var a in 0..2;"), "reach(0)", 3);
        Edges.promise(25, "a value stays that each rule for itself leaves, though no plan is feasible");
        PlanningHouse x = Edges.with("var a in 0..1; var b in 0..1; var c in 0..1; rule r at 0*1: a # b; "
            + "rule s at 0*1: b # c; rule t at 0*1: a # c;");
        Edges.due(x, "reach(0)", 6);
        Edges.due(x, "feasibles(0)", 0);
        Edges.promise(25, "what goes of one var takes values of others along, in whatever order");
        Edges.due(Edges.with("var a in 0..1; var b in 0..1; rule q at 0*1: a > 0; rule s at 0*1: a = 0 | b = 1;"),
            "reach(0)", 2);
        Edges.due(Edges.with("var b in 0..1; var a in 0..1; rule s at 0*1: a = 0 | b = 1; rule q at 0*1: a > 0;"),
            "reach(0)", 2);
        Edges.promise(25, "the first and the last value of a range may be the only one");
        Edges.due(Edges.with("var a in 0..19; rule r at 0*1: a = 19;"), "reach(0)", 1);
        Edges.due(Edges.with("var a in 0..19; rule r at 0*1: a = 0;"), "reach(0)", 1);
        Edges.promise(25, "of a pinned var its value at hand, also without hard rules");
        x = Edges.with("var a in 0..2; var b in 0..2;");
        Edges.put(x, 1, 2);
        x.pin(0, 0, true);
        Edges.due(x, "reach(0)", 1 + 3);
        Edges.due(x, "isLeft(0, 0, 1)", 1);
        Edges.due(x, "isLeft(0, 0, 0)", 0);
        Edges.due(x, "isLeft(0, 0, 2)", 0);
        Edges.promise(25, "nothing but the answer");
        refused(3 + 3 + 2, "reach(0)");
        refused(0, "reach(2)");
        refused(1, "isLeft(0, 1, 2)");
    }

    private static void hopeless() {
        Edges.promise(27, "the first hard rule that no plan of all ranges keeps; NONE when there is none such");
        PlanningHouse x = Edges.with("fact f = 2; var a in 0..2; var b in 0..2; rule q at 1*1: a = 9; "
            + "rule r at 0*1: a + b < f;"
            + "rule s at 0*1: a > f - 2; rule t at 0*1: a = 9;");
        Edges.due(x, "hopeless(0)", 3);
        x.change(0, 0, 0);
        Edges.due(x, "hopeless(0)", 1);
        x.change(0, 0, 4);
        Edges.due(x, "hopeless(0)", 2);
        x.change(0, 0, 3);
        Edges.due(x, "hopeless(0)", 3);
        x = Edges.with("var a in 0..2; rule r at 0*1: a > 0; rule s at 0*1: a < 1;");
        Edges.due(x, "hopeless(0)", Edges.NONE);
        x.pin(0, 0, true);
        Edges.due(x, "hopeless(0)", 0);
        x.put(0, 0, 2);
        Edges.due(x, "hopeless(0)", 1);
        Edges.due(Edges.with("var a in 0..2; rule r at 1*1: a = 9;"), "hopeless(0)", Edges.NONE);
        refused(0, "hopeless(2)");
        refused(Edges.NONE, "hopeless(0)");
    }

    // ---- the best

    private static void best() {
        Edges.promise(28, "the first of the BEST plans is at hand then: 1");
        PlanningHouse x = rich();
        Edges.due(x, "solve(0)", 1);
        Edges.plan(x, 0, 1, 0, 5);
        Edges.promise(28, "0, and nothing changes, when no allowed plan is feasible");
        refused(0, "solve(2)");
        x = rich();
        Edges.put(x, 2, 2, 6);
        x.pin(0, 0, true);
        x.pin(0, 1, true);
        Edges.due(x, "solve(0)", 0);
        Edges.plan(x, 0, 2, 2, 6);
        Edges.promise(28, "pinned vars keep their values");
        Edges.put(x, 2, 0, 6);
        Edges.due(x, "solve(0)", 1);
        Edges.plan(x, 0, 2, 0, 5);
        Edges.promise(29, "the score of the BEST at a level; NO when there are none, or no such level");
        refused(0, "best(0, 0)", "best(0, 1)");
        refused(5, "best(0, 2)");
        refusedFor(NO_LEVEL, Edges.NO, "best(0, ?)");
        refused(Edges.NO, "best(2, 0)", "best(2, 1)", "best(2, 2)");
        Edges.promise(30, "how many BEST plans there are");
        refused(1, "bests(0)");
        refused(0, "bests(2)");
        Edges.promise(31, "BEST plan k, from the first on; false when there are not so many");
        x = rich();
        Edges.due(x, "bestAt(0, 0)", 1);
        Edges.plan(x, 0, 1, 0, 5);
        refused(0, "bestAt(0, 1)", "bestAt(0, -1)", "bestAt(0, MIN)", "bestAt(0, MAX)", "bestAt(2, 0)", "bestAt(2, -1)");
        Edges.promise(32, "how many feasible allowed plans there are");
        refused(14, "feasibles(0)");
        refused(0, "feasibles(2)");
        Edges.promise(33, "feasible allowed plan k, from the first on; false when there are not so many");
        Edges.due(x, "feasibleAt(0, 0)", 1);
        Edges.plan(x, 0, 0, 2, 5);
        Edges.due(x, "feasibleAt(0, 13)", 1);
        Edges.plan(x, 0, 2, -1, 6);
        Edges.due(x, "feasibleAt(0, 12)", 1);
        Edges.plan(x, 0, 2, -1, 5);
        refused(0, "feasibleAt(0, 14)", "feasibleAt(0, -1)", "feasibleAt(0, MIN)", "feasibleAt(0, MAX)",
            "feasibleAt(2, 0)", "feasibleAt(2, -1)");
        Edges.promise(33, "all 20000 plans may be feasible, and the best");
        x = Edges.with("var a in 1..20; var b in 1..20; var c in 1..10; var d in 1..5;");
        Edges.due(x, "feasibles(0)", 20000);
        Edges.due(x, "bests(0)", 20000);
        Edges.due(x, "feasibleAt(0, 20000)", 0);
        Edges.due(x, "feasibleAt(0, 19999)", 1);
        Edges.plan(x, 0, 20, 20, 10, 5);
        Edges.due(x, "bestAt(0, 20000)", 0);
        Edges.due(x, "bestAt(0, 19998)", 1);
        Edges.plan(x, 0, 20, 20, 10, 4);
    }

    private static void having() {
        Edges.promise(34, "in how many var v has a value; the board shows that by all of these");
        PlanningHouse x = Edges.with(SHOP);
        Edges.due(x, "has(0, 0, 0, false)", 4);
        Edges.board(x, 2, 7);
        Edges.due(x, "has(0, 0, 1, false)", 6);
        Edges.board(x, 3, 7);
        Edges.due(x, "has(0, 2, 6, false)", 7);
        Edges.board(x, 1, 2);
        Edges.due(x, "has(0, 0, 1, true)", 1);
        Edges.board(x, 1, 1);
        Edges.promise(34, "a value that no plan has, or that is none of its range: 0, the board 0 / 1");
        for (String value : new String[] {"0", "2", "3", "-1", "MIN", "MAX"}) {
            x.has(0, 0, 1, true);
            Edges.due(x, "has(0, 0, " + value + ", true)", 0);
            Edges.board(x, 0, 1);
        }
        x.has(0, 0, 1, true);
        Edges.due(x, "has(0, 0, 3, false)", 0);
        Edges.board(x, 0, 1);
        Edges.promise(34, "0 / 1 without any");
        x = rich();
        Edges.board(x, 3, 7);
        Edges.due(x, "has(2, 0, 4, false)", 0);
        Edges.board(x, 0, 1);
        x = rich();
        Edges.due(x, "has(2, 0, 4, true)", 0);
        Edges.board(x, 0, 1);
        Edges.promise(34, "NONE, and the board stays, when there is no such var");
        refusedFor(new String[] {"-1", "3", "12", "MIN", "MAX"}, Edges.NONE, "has(0, ?, 1, true)", "has(0, ?, 1, false)");
        Edges.promise(35, "how many different values var v has in the BEST plans; 0 when there are none");
        refused(1, "choices(0, 0)", "choices(0, 2)");
        refused(0, "choices(2, 0)");
        Edges.due(Edges.with("var a in 1..20; var b in 1..20;"), "choices(0, 1)", 20);
        Edges.due(Edges.with("var a in 1..20;"), "choices(0, 0)", 20);
        Edges.due(Edges.with("var a in 1..20; rule r at 1*1: a = 1 | a = 20;"), "choices(0, 0)", 2);
        Edges.promise(35, "NONE when there is no such var");
        refusedFor(new String[] {"-1", "3", "12", "MIN", "MAX"}, Edges.NONE, "choices(0, ?)");
    }

    private static void mends() {
        Edges.promise(36, "the vars of a set are free, all others as they are at hand, pins do not matter");
        PlanningHouse x = rich();
        Edges.put(x, 2, 2, 6);
        for (int v = 0; v < 3; v++) {
            x.pin(0, v, true);
        }
        Edges.due(x, "mend(0, 4)", 0);
        Edges.plan(x, 0, 2, 2, 6);
        Edges.due(x, "mend(0, 1)", 1);
        Edges.plan(x, 0, 1, 2, 6);
        Edges.due(x, "mend(0, 2)", 1);
        Edges.plan(x, 0, 1, 0, 6);
        Edges.due(x, "mend(0, 0)", 1);
        Edges.plan(x, 0, 1, 0, 6);
        Edges.due(x, "mend(0, 7)", 1);
        Edges.plan(x, 0, 1, 0, 5);
        Edges.due(x, "pin(0, 0, true)", 1);
        Edges.promise(36, "bits of others count as none");
        Edges.put(x, 2, 0, 6);
        Edges.due(x, "mend(0, 8)", 1);
        Edges.plan(x, 0, 2, 0, 6);
        Edges.due(x, "mend(0, MIN)", 1);
        Edges.plan(x, 0, 2, 0, 6);
        Edges.due(x, "mend(0, -8)", 1);
        Edges.plan(x, 0, 2, 0, 6);
        Edges.due(x, "mend(0, -4)", 1);
        Edges.plan(x, 0, 2, 0, 5);
        Edges.due(x, "mend(0, MAX)", 1);
        Edges.plan(x, 0, 1, 0, 5);
        Edges.promise(36, "0, and nothing changes, when none is feasible");
        refused(0, "mend(2, 0)", "mend(2, 1)", "mend(2, -1)", "mend(2, MIN)", "mend(2, MAX)");
        Edges.promise(36, "the first of several");
        x = Edges.with("var a in 0..2; var b in 0..2; rule r at 0*1: a # b;");
        Edges.put(x, 2, 2);
        Edges.due(x, "mend(0, 3)", 1);
        Edges.plan(x, 0, 0, 1);
    }

    // ---- several aims, near plans

    private static void fronts() {
        Edges.promise(37, "how many pairs THE FRONT has");
        // Pairs 0 3, 1 2 twice, 1 4, 2 2, 3 -1, 3 0; b is 1 or 2.
        PlanningHouse x = Edges.with("var a in 0..6; var b in 1..2; aim m at 1: pick(a : 3, 3, 1, 2, 1, 1, 0); "
            + "aim n at 2: pick(a : 0, -1, 2, 2, 4, 2, 3); rule r at 0*1: b = 1 | a = 2;");
        Edges.due(x, "front(0)", 3);
        Edges.promise(38, "what = 0 how many plans have it, 1 its score at level 1, 2 that at level 2, rising by the first ones");
        int[][] due = {{1, 0, 3}, {3, 1, 2}, {1, 3, -1}};
        for (int k = 0; k < 3; k++) {
            for (int what = 0; what < 3; what++) {
                Edges.due(x, "frontAt(0, " + k + ", " + what + ")", due[k][what]);
            }
        }
        Edges.promise(38, "NO when there is none such");
        for (String k : new String[] {"-1", "3", "MIN", "MAX"}) {
            for (int what = 0; what < 3; what++) {
                Edges.due(x, "frontAt(0, " + k + ", " + what + ")", Edges.NO);
            }
        }
        for (String what : new String[] {"-1", "3", "MIN", "MAX"}) {
            Edges.due(x, "frontAt(0, 0, " + what + ")", Edges.NO);
        }
        refused(Edges.NO, "frontAt(2, 0, 0)", "frontAt(2, -1, 1)", "frontAt(0, 99, 0)", "frontAt(0, 0, 3)");
        Edges.promise(39, "the first plan of pair k is at hand then; false when there is none such");
        int[][] first = {{6, 1}, {2, 1}, {1, 1}};
        for (int k = 0; k < 3; k++) {
            Edges.due(x, "frontPlan(0, " + k + ")", 1);
            Edges.plan(x, 0, first[k]);
        }
        refused(0, "frontPlan(0, -1)", "frontPlan(0, 99)", "frontPlan(0, MIN)", "frontPlan(0, MAX)", "frontPlan(2, 0)",
            "frontPlan(2, -1)");
        Edges.due(x, "frontPlan(0, 3)", 0);
        Edges.plan(x, 0, first[2]);
        Edges.promise(37, "0 when no allowed plan is feasible, 1 when all have the same scores");
        refused(0, "front(2)");
        Edges.due(Edges.with("var a in 1..20; var b in 1..20;"), "front(0)", 1);
        Edges.promise(37, "only allowed plans count");
        Edges.put(x, 3, 1);
        x.pin(0, 0, true);
        Edges.due(x, "front(0)", 1);
        Edges.due(x, "frontAt(0, 0, 1)", 2);
        Edges.due(x, "frontAt(0, 0, 0)", 1);
        Edges.promise(37, "all 20000 plans may be on it");
        x = Edges.with("var a in 0..19; var b in 0..19; var c in 0..9; var d in 0..4; "
            + "aim m at 1: a * 1000 + b * 50 + c * 5 + d; "
            + "aim n at 2: - a * 1000 - b * 50 - c * 5 - d;");
        Edges.due(x, "front(0)", 20000);
        Edges.due(x, "frontAt(0, 19999, 1)", 19999);
        Edges.due(x, "frontAt(0, 0, 2)", 0);
        Edges.due(x, "frontAt(0, 20000, 0)", Edges.NO);
        Edges.due(x, "frontPlan(0, 12345)", 1);
        Edges.plan(x, 0, 12, 6, 9, 0);
    }

    /** Fronts of 1 to 40 plans with scores in disorder, against all pairs looked at one by one. */
    private static void frontsOfAllSizes() {
        Edges.promise(37, "fronts of any size and order");
        for (int n = 1; n <= 40; n++) {
            int[] ones = new int[n];
            int[] twos = new int[n];
            StringBuilder first = new StringBuilder();
            StringBuilder second = new StringBuilder();
            for (int i = 0; i < n; i++) {
                ones[i] = (i * 37 + n * 11) % 23;
                twos[i] = (i * 53 + n * 7) % 29;
                first.append(" + ").append(ones[i]).append(" * [a + 20 * b = ").append(i).append("]");
                second.append(" + ").append(twos[i]).append(" * [a + 20 * b = ").append(i).append("]");
            }
            String vars = n <= 20 ? "var a in 0.." + (n - 1) + "; var b in 0..0;" : "var a in 0..19; var b in 0..1;";
            PlanningHouse x = Edges.with(vars + "rule r at 0*1: a + 20 * b < " + n + "; aim m at 1: 0" + first
                + "; aim o at 2: 0" + second + ";");
            int pairs = 0;
            for (int one = 0; one < 23; one++) {
                int plan = firstOnFront(ones, twos, one);
                if (plan >= 0) {
                    Edges.due(x, "frontAt(0, " + pairs + ", 1)", one);
                    Edges.due(x, "frontAt(0, " + pairs + ", 2)", twos[plan]);
                    Edges.due(x, "frontPlan(0, " + pairs + ")", 1);
                    Edges.plan(x, 0, plan % 20, plan / 20);
                    pairs++;
                }
            }
            Edges.due(x, "front(0)", pairs);
            Edges.due(x, "frontAt(0, " + pairs + ", 1)", Edges.NO);
        }
    }

    /** As many pairs as plans, in any order. */
    private static void frontsOfAllPlans() {
        Edges.promise(37, "each plan may be on the front, in whatever order");
        for (int n = 1; n <= 20; n++) {
            for (int turn = 1; turn < 23; turn += 3) {
                StringBuilder scores = new StringBuilder();
                int[] planOf = new int[23];
                Arrays.fill(planOf, -1);
                for (int i = 0; i < n; i++) {
                    int one = (i * turn + n) % 23;
                    planOf[one] = i;
                    scores.append(i > 0 ? ", " : "").append(one);
                }
                PlanningHouse x = Edges.with("var a in 0.." + (n - 1) + "; aim m at 1: pick(a : " + scores
                    + "); aim o at 2: - pick(a : " + scores + ");");
                Edges.due(x, "front(0)", n);
                int k = 0;
                for (int one = 0; one < 23; one++) {
                    if (planOf[one] >= 0) {
                        Edges.due(x, "frontAt(0, " + k + ", 1)", one);
                        Edges.due(x, "frontAt(0, " + k + ", 2)", -one);
                        Edges.due(x, "frontAt(0, " + k + ", 0)", 1);
                        k++;
                    }
                }
            }
        }
    }

    /** Of the plans with this score at level 1 the first that no other one beats; -1 if there is none. */
    private static int firstOnFront(int[] ones, int[] twos, int one) {
        for (int i = 0; i < ones.length; i++) {
            boolean beaten = ones[i] != one;
            for (int j = 0; j < ones.length; j++) {
                beaten |= ones[j] < ones[i] && twos[j] <= twos[i] || ones[j] <= ones[i] && twos[j] < twos[i];
            }
            if (!beaten) {
                return i;
            }
        }
        return -1;
    }

    private static void near() {
        Edges.promise(40, "that which differs from the plan at hand in vars whose COSTS are least together, of several the first");
        PlanningHouse x = Edges.with(SHOP);
        Edges.put(x, 2, 2, 6);
        x.weigh(0, 0, 1000);
        x.weigh(0, 1, 1000);
        x.weigh(0, 2, 0);
        // A change of c is free, so 0 2 5 is as near as 0 2 6, and the first of all that differ in a or in b alone.
        Edges.due(x, "near(0, false)", 1000);
        Edges.plan(x, 0, 0, 2, 5);
        Edges.due(x, "near(0, false)", 0);
        Edges.plan(x, 0, 0, 2, 5);
        Edges.put(x, 2, 2, 6);
        x.weigh(0, 1, 999);
        Edges.due(x, "near(0, false)", 999);
        Edges.plan(x, 0, 2, 0, 5);
        Edges.put(x, 2, 2, 6);
        Edges.due(x, "near(0, true)", 1999);
        Edges.plan(x, 0, 1, 0, 5);
        Edges.promise(40, "pinned vars keep their values");
        Edges.put(x, 2, 2, 6);
        x.pin(0, 1, true);
        Edges.due(x, "near(0, false)", 1000);
        Edges.plan(x, 0, 0, 2, 5);
        Edges.promise(40, "NONE, and nothing changes, when there is none");
        refused(Edges.NONE, "near(2, true)", "near(2, false)");
        Edges.promise(40, "costs of 12 vars of 1000 each");
        StringBuilder text = new StringBuilder();
        StringBuilder all = new StringBuilder();
        for (int v = 0; v < 12; v++) {
            text.append("var v").append(v).append(" in 0..1;");
            all.append(v > 0 ? " + " : "").append("v").append(v);
        }
        x = Edges.with(text + "rule r at 0*1: " + all + " = 12;");
        for (int v = 0; v < 12; v++) {
            x.weigh(0, v, 1000);
        }
        Edges.due(x, "near(0, false)", 12000);
        Edges.due(x, "near(0, true)", 0);
    }

    // ---- none, and why

    private static void clashes() {
        // s and t clash, u and v too, w with none; 0 and 6 are soft.
        PlanningHouse x = Edges.with("var a in 0..2; var b in 0..2; rule soft at 1*1: a = 9; rule w at 0*1: b < 9; "
            + "rule s at 0*4: a < 1;"
            + "rule u at 0*3: a = b; rule t at 0*4: a > 1; rule v at 0*2: a # b; rule z at 2*1: a = 9;");
        Edges.promise(41, "each is left out for good, if those that are in yet without it CLASH still");
        Edges.due(x, "clash(0)", 1 << 3 | 1 << 5);
        Edges.promise(42, "that with the fewest rules, of several the least number");
        Edges.due(x, "fewest(0)", 1 << 2 | 1 << 4);
        Edges.promise(43, "that whose weights are least together, of several the least number");
        Edges.due(x, "relax(0)", 1 << 2 | 1 << 5);
        Edges.put(x, 1, 0);
        x.pin(0, 0, true);
        Edges.promise(41, "pinned vars have their values");
        Edges.due(x, "clash(0)", 1 << 4);
        Edges.promise(42, "one rule may clash alone");
        Edges.due(x, "fewest(0)", 1 << 2);
        Edges.promise(43, "each rule that is broken alone needs to go");
        Edges.due(x, "relax(0)", 1 << 2 | 1 << 4 | 1 << 5);
        String none = "var a in 0..2; rule r at 0*1: a > 0;";
        for (String text : new String[] {none, "var a in 0..2;", "var a in 0..2; rule r at 1*1: a = 9;"}) {
            Edges.promise(41, "0 when all hard rules together don't clash");
            Edges.due(Edges.with(text), "clash(0)", 0);
            Edges.promise(42, "0 when all hard rules together don't clash, or there is none");
            Edges.due(Edges.with(text), "fewest(0)", 0);
            Edges.promise(43, "0 when none needs to go");
            Edges.due(Edges.with(text), "relax(0)", 0);
        }
        StringBuilder text = new StringBuilder("var a in 0..11;");
        for (int r = 0; r < 12; r++) {
            text.append("rule s").append(r).append(" at 1*1: a = 0; "
                + "rule h").append(r).append(" at 0*").append(r == 9 ? 999 : 1000)
                .append(": a # ").append(r).append(';');
        }
        x = Edges.with(text.toString());
        int all = 0xaaaaaa;
        Edges.promise(41, "12 hard rules that clash only together, up to rule 23");
        Edges.due(x, "clash(0)", all);
        Edges.promise(42, "12 hard rules that clash only together, up to rule 23");
        Edges.due(x, "fewest(0)", all);
        Edges.promise(43, "the lightest of 12");
        Edges.due(x, "relax(0)", 1 << 19);
        Edges.promise(43, "fewer rules are not lighter");
        x = Edges.with("var a in 0..1; rule r at 0*5: a = 1; rule s at 0*2: a = 0; rule t at 0*2: a # 1; "
            + "rule u at 0*1: a < 1;");
        Edges.due(x, "relax(0)", 1);
        x = Edges.with("var a in 0..1; rule r at 0*6: a = 1; rule s at 0*2: a = 0; rule t at 0*2: a # 1; "
            + "rule u at 0*1: a < 1;");
        Edges.due(x, "relax(0)", 14);
        Edges.promise(43, "of several the least number");
        x = Edges.with("var a in 0..1; rule s at 0*2: a = 0; rule t at 0*3: a # 1; rule r at 0*5: a = 1;");
        Edges.due(x, "relax(0)", 3);
        Edges.promise(41, "nothing but the answer");
        refused(1, "clash(2)", "fewest(2)", "relax(2)");
        refused(0, "clash(0)", "fewest(0)", "relax(0)");
    }

    private static void without() {
        Edges.promise(44, "the score of the BEST at a level, if rule r were not there");
        refused(0, "without(0, 0, 0)", "without(0, 1, 0)", "without(0, 3, 0)");
        refused(-2, "without(0, 1, 1)");
        refused(5, "without(0, 3, 2)", "without(0, 2, 2)");
        refused(0, "without(0, 0, 1)", "without(0, 0, 2)");
        Edges.promise(44, "NO when none is feasible then, or there is no such rule or level");
        refusedFor(NO_LEVEL, Edges.NO, "without(0, 0, ?)");
        refusedFor(new String[] {"-1", "4", "24", "MIN", "MAX"}, Edges.NO, "without(0, ?, 1)");
        refused(0, "without(2, 0, 0)", "without(2, 0, 2)");
        PlanningHouse x = Edges.with("var a in 0..1; rule r at 0*1: a = 5; rule s at 0*1: a = 6; rule t at 1*2: a = 1;");
        for (int r = 0; r < 3; r++) {
            Edges.due(x, "without(0, " + r + ", 0)", Edges.NO);
        }
        x = Edges.with("var a in 0..1; rule r at 0*1: a = 5; rule t at 1*2: a = 1; rule u at 2*3: a = 0;");
        Edges.due(x, "without(0, 0, 0)", 0);
        Edges.due(x, "without(0, 0, 1)", 0);
        Edges.due(x, "without(0, 0, 2)", 3);
        Edges.due(x, "without(0, 1, 1)", Edges.NO);
        Edges.promise(44, "a rule of level 1 or 2 takes what it costs with it");
        x = Edges.with("var a in 0..2; rule r at 2*3: a = 0; rule s at 1*2: a = 2; rule t at 2*5: a < 1; aim m at 2: a;");
        // Scores of a = 0, 1, 2 at levels 1 and 2: 4 0, 2 9, 0 18.
        Edges.due(x, "best(0, 1)", 0);
        Edges.due(x, "best(0, 2)", 18);
        Edges.due(x, "without(0, 0, 1)", 0);
        Edges.due(x, "without(0, 0, 2)", 12);
        Edges.due(x, "without(0, 1, 1)", 0);
        Edges.due(x, "without(0, 1, 2)", 0);
        Edges.due(x, "without(0, 2, 1)", 0);
        Edges.due(x, "without(0, 2, 2)", 8);
    }

    private static void whyNot() {
        Edges.promise(45, "the score at a level of the best of all feasible allowed plans in which var v has a value");
        refused(0, "whyNot(0, 0, 1, 0)", "whyNot(0, 0, 0, 0)");
        refused(1, "whyNot(0, 0, 0, 1)");
        refused(0, "whyNot(0, 0, 0, 2)");
        refused(8, "whyNot(0, 1, 2, 1)");
        refused(5, "whyNot(0, 1, 2, 2)");
        Edges.promise(45, "NO when there is none, or no such level");
        refusedFor(NO_LEVEL, Edges.NO, "whyNot(0, 0, 1, ?)");
        refusedFor(new String[] {"3", "-1", "MIN", "MAX"}, Edges.NO, "whyNot(0, 0, ?, 1)");
        refusedFor(new String[] {"-1", "3", "12", "MIN", "MAX"}, Edges.NO, "whyNot(0, ?, 1, 1)");
        refused(Edges.NO, "whyNot(2, 0, 4, 0)");
        PlanningHouse x = rich();
        x.pin(0, 0, true);
        Edges.due(x, "whyNot(0, 0, 1, 1)", Edges.NO);
        Edges.due(x, "whyNot(0, 0, 2, 1)", 0);
        Edges.promise(46, "the first rule that the first of those breaks by more than the first BEST plan");
        refused(1, "because(0, 1, 2)");
        refused(3, "because(0, 2, 6)");
        Edges.promise(46, "NONE when there is none such, or no such plan");
        refused(Edges.NONE, "because(0, 0, 1)", "because(0, 0, 0)", "because(0, 0, 2)", "because(0, 0, 3)",
            "because(0, 0, MIN)",
            "because(0, 0, MAX)", "because(2, 0, 4)");
        refusedFor(new String[] {"-1", "3", "12", "MIN", "MAX"}, Edges.NONE, "because(0, ?, 1)");
        Edges.due(x, "because(0, 0, 1)", Edges.NONE);
        x = Edges.with("var a in 0..2; rule r at 2*1: a < 2; rule s at 1*1: a = 0;");
        Edges.due(x, "because(0, 0, 0)", Edges.NONE);
        Edges.due(x, "because(0, 0, 1)", 1);
        Edges.due(x, "because(0, 0, 2)", 0);
    }

    // ---- futures

    private static void futures() {
        Edges.promise(47, "odds (1 .. 100): its number; FULL: there are 6");
        PlanningHouse x = Edges.with(SHOP);
        int[] odds = {1, 100, 2, 99, 50, 1};
        for (int u = 0; u < 6; u++) {
            Edges.due(x, "future(0, " + odds[u] + ")", u);
            Edges.due(x, "count(0, 7)", u + 1);
        }
        Edges.due(x, "expected(0, 1)", 18 * 253);
        Edges.board(x, 18, 1);
        Edges.Maker six = () -> {
            PlanningHouse y = rich();
            for (int u = 2; u < 6; u++) {
                y.future(0, u);
            }
            return y;
        };
        Edges.refused(six, Edges.FULL, "future(0, 1)", "future(0, 100)");
        Edges.promise(47, "NONE: other odds; nothing changes");
        refused(Edges.NONE, "future(0, 0)", "future(0, 101)", "future(0, -1)", "future(0, MIN)", "future(0, MAX)");
        Edges.refused(six, Edges.NONE, "future(0, 0)", "future(0, 101)");
        Edges.promise(49, "there are no futures then: how many there were");
        Edges.due(x, "unfold(0)", 6);
        Edges.due(x, "count(0, 7)", 0);
        Edges.due(x, "unfold(0)", 0);
        refused(0, "unfold(2)");
        Edges.promise(49, "new ones are numbered from 0 again, and tell nothing");
        x.future(0, 1);
        x.told(0, 0, 0, 0);
        x.unfold(0);
        Edges.due(x, "told(0, 0, 0, 1)", 0);
        Edges.due(x, "future(0, 5)", 0);
        Edges.put(x, 1, 2, 5);
        Edges.due(x, "expected(0, 0)", 0);
        Edges.promise(47, "problems have futures of their own");
        x = rich();
        Edges.due(x, "future(2, 7)", 0);
        Edges.due(x, "count(0, 7)", 2);
        Edges.due(x, "unfold(2)", 1);
        Edges.due(x, "count(0, 7)", 2);
    }

    private static void told() {
        Edges.promise(48, "in future u fact f has a value (-9999 .. 9999)");
        PlanningHouse x = Edges.with("fact f = 1; fact g = 2; var a in 0..1; aim m at 1: f; aim n at 2: g;");
        for (int u = 0; u < 6; u++) {
            x.future(0, 1);
        }
        Edges.due(x, "told(0, 0, 0, 9999)", 1);
        Edges.due(x, "expected(0, 1)", 9999 + 5);
        Edges.due(x, "told(0, 5, 0, -9999)", 1);
        Edges.due(x, "expected(0, 1)", 4);
        Edges.due(x, "expected(0, 2)", 12);
        Edges.due(x, "told(0, 5, 1, 0)", 1);
        Edges.due(x, "expected(0, 2)", 10);
        Edges.due(x, "told(0, 0, 0, 1)", 1);
        Edges.due(x, "expected(0, 1)", 5 - 9999);
        Edges.promise(48, "facts that it doesn't tell are as they are now, told ones are not");
        x.change(0, 0, 3);
        Edges.due(x, "expected(0, 1)", 1 + 4 * 3 - 9999);
        Edges.due(x, "fact(0, 0)", 3);
        Edges.promise(48, "false when there is none such; nothing changes");
        refused(0, "told(0, -1, 0, 1)", "told(0, 2, 0, 1)", "told(0, 6, 0, 1)", "told(0, MIN, 0, 1)", "told(0, MAX, 0, 1)");
        refused(0, "told(0, 0, -1, 1)", "told(0, 0, 1, 1)", "told(0, 0, 16, 1)", "told(0, 0, MIN, 1)", "told(0, 0, MAX, 1)");
        refused(0, "told(0, 0, 0, 10000)", "told(0, 0, 0, -10000)", "told(0, 0, 0, MIN)", "told(0, 0, 0, MAX)",
            "told(2, 0, 0, 1)");
        Edges.terms("all questions but those that name futures go by the facts as they are");
        PlanningHouse y = rich();
        y.told(0, 0, 0, -9999);
        y.told(0, 1, 0, -9999);
        PlanningHouse z = rich();
        for (String call : new String[] {"feasibles(0)", "bests(0)", "best(0, 1)", "reach(0)", "hopeless(0)", "clash(0)",
            "front(0)",
            "rule(0, 2, 3)", "without(0, 1, 1)", "broken(0, 2)", "score(0, 0)", "feasible(0)", "solve(0)",
                "search(0, 0, 0, 1, 9)"}) {
            Edges.due(y, call, Edges.ask(z, call));
        }
    }

    private static void robust() {
        Edges.promise(50, "the allowed plan feasible in all futures whose sums of odds times the score are least, of several the first");
        PlanningHouse x = Edges.with("fact f = 0; fact g = 4; var a in 0..4; var b in 0..1; rule r at 0*1: a <= g; "
            + "rule s at 1*1: a = f; aim m at 2: - a;");
        x.future(0, 1);
        x.future(0, 2);
        x.told(0, 1, 0, 4);
        Edges.due(x, "robust(0)", 1);
        Edges.plan(x, 0, 4, 0);
        x.told(0, 0, 1, 3);
        Edges.due(x, "robust(0)", 1);
        Edges.plan(x, 0, 3, 0);
        x.change(0, 1, 2);
        Edges.due(x, "robust(0)", 1);
        Edges.plan(x, 0, 2, 0);
        Edges.promise(50, "of the same at level 1 that which is less at 2");
        x.unfold(0);
        x.future(0, 1);
        x.future(0, 1);
        x.told(0, 1, 0, 4);
        Edges.due(x, "robust(0)", 1);
        Edges.plan(x, 0, 2, 0);
        Edges.promise(50, "pinned vars keep their values");
        Edges.put(x, 1, 1);
        x.pin(0, 0, true);
        Edges.due(x, "robust(0)", 1);
        Edges.plan(x, 0, 1, 0);
        Edges.promise(50, "0, and nothing changes, when there is none, or no future");
        Edges.put(x, 1, 1);
        x.told(0, 1, 1, 0);
        Edges.due(x, "robust(0)", 0);
        Edges.plan(x, 0, 1, 1);
        refused(0, "robust(2)");
        Edges.Maker none = () -> {
            PlanningHouse y = rich();
            y.unfold(0);
            return y;
        };
        Edges.refused(none, "robust(0)", 0);
        Edges.Maker one = () -> {
            PlanningHouse y = rich();
            y.told(0, 1, 0, -2);
            return y;
        };
        Edges.refused(one, "robust(0)", 0);
    }

    private static void robustByLevels() {
        Edges.promise(50, "level 1 goes before level 2, whatever the odds");
        PlanningHouse x = Edges.with("fact f = 1; var a in 0..2; aim m at 1: pick(a : 2, 1, 1) * f; "
            + "aim n at 2: pick(a : 0, 9, 8) * f;");
        x.future(0, 100);
        x.future(0, 1);
        x.told(0, 1, 0, -1);
        Edges.due(x, "robust(0)", 1);
        Edges.plan(x, 0, 2);
        Edges.due(x, "expected(0, 1)", 99);
        Edges.due(x, "expected(0, 2)", 8 * 99);
        Edges.promise(50, "only the last plan, or the first, may be feasible in all futures");
        for (int only : new int[] {0, 4}) {
            x = Edges.with("fact f = " + only + "; var a in 0..4; rule r at 0*1: a = f; aim m at 1: 3 * a;");
            x.put(0, 0, 2);
            x.future(0, 3);
            Edges.due(x, "robust(0)", 1);
            Edges.plan(x, 0, only);
            Edges.promise(52, "with one future");
            x.put(0, 0, 3);
            Edges.due(x, "regret(0, 1)", 9 - 3 * only);
            Edges.due(x, "regret(0, 0)", Math.abs(only - 3));
            Edges.promise(51, "with one future");
            Edges.due(x, "expected(0, 1)", 27);
            Edges.board(x, 9, 1);
            Edges.promise(50, "only the last plan, or the first, may be feasible in all futures");
        }
    }

    private static void expected() {
        Edges.promise(51, "the sum of odds times its score at a level, and the board shows that by the sum of odds");
        PlanningHouse x = Edges.with("fact f = 5; var a in 0..1; aim m at 1: f; rule r at 0*2: a = 0; "
            + "aim n at 2: 0 - 1000 * 1000;");
        x.future(0, 100);
        x.future(0, 20);
        x.told(0, 1, 0, -4);
        Edges.due(x, "expected(0, 1)", 420);
        Edges.board(x, 7, 2);
        Edges.due(x, "expected(0, 0)", 0);
        Edges.board(x, 0, 1);
        Edges.due(x, "expected(0, 2)", -120000000);
        Edges.board(x, -1000000, 1);
        x.put(0, 0, 1);
        Edges.due(x, "expected(0, 0)", 240);
        Edges.board(x, 2, 1);
        Edges.promise(51, "NO, and the board stays, without futures or such a level");
        refusedFor(NO_LEVEL, Edges.NO, "expected(0, ?)");
        refused(Edges.NO, "expected(2, 0)", "expected(2, 1)", "expected(2, 3)");
        Edges.promise(51, "great sums");
        StringBuilder text = new StringBuilder("var a in 0..0;");
        for (int r = 0; r < 12; r++) {
            text.append("rule r").append(r).append(" at 0*1000: 1000*1000 < 0-1000*1000;");
        }
        x = Edges.with(text.toString());
        for (int u = 0; u < 6; u++) {
            x.future(0, 100);
        }
        Edges.due(x, "expected(0, 0)", 600 * 12000L * 2000001L);
        Edges.board(x, 12000L * 2000001L, 1);
    }

    private static void regret() {
        Edges.promise(52, "how much the score is above the least one of all allowed plans feasible in that future, at most");
        PlanningHouse x = Edges.with("fact f = 2; fact g = 0; var a in 0..4; rule r at 0*1: a <= f; "
            + "rule s at 1*1: a = 4; aim m at 2: a * g;");
        x.future(0, 1);
        x.future(0, 100);
        x.told(0, 0, 0, 3);
        x.told(0, 1, 1, -1);
        x.put(0, 0, 2);
        Edges.due(x, "regret(0, 0)", 0);
        Edges.due(x, "regret(0, 1)", 1);
        Edges.due(x, "regret(0, 2)", 0);
        x.put(0, 0, 1);
        Edges.due(x, "regret(0, 1)", 2);
        Edges.due(x, "regret(0, 2)", 1);
        Edges.promise(52, "it may be below 0");
        x.put(0, 0, 4);
        Edges.due(x, "regret(0, 1)", -1);
        Edges.due(x, "regret(0, 0)", 2);
        Edges.promise(52, "only allowed plans are compared, whatever the other levels");
        x.put(0, 0, 1);
        x.pin(0, 0, true);
        Edges.due(x, "regret(0, 1)", 0);
        Edges.promise(52, "NO when in some future none is feasible");
        x.told(0, 1, 0, 0);
        for (int level = 0; level < 3; level++) {
            Edges.due(x, "regret(0, " + level + ")", Edges.NO);
        }
        Edges.promise(52, "NO when there is no future, or no such level");
        refused(Edges.NO, "regret(2, 0)", "regret(2, 1)", "regret(2, 3)");
        refusedFor(NO_LEVEL, Edges.NO, "regret(0, ?)");
        refused(0, "regret(0, 0)");
    }

    // ---- the board

    private static void boards() {
        Edges.promise(57, "in least terms, with the sign");
        PlanningHouse x = Edges.with("fact f = 0; var a in 0..0; aim m at 1: f;");
        x.future(0, 6);
        x.future(0, 4);
        int[][] due = {{0, 0, 0, 1}, {1, 0, 3, 5}, {-1, 0, -3, 5}, {5, 0, 3, 1}, {-5, 0, -3, 1}, {0, -1, -2, 5}, {1, 1, 1, 1},
            {-1, -1, -1, 1}, {2, -3, 0, 1}, {9999, -9999, 9999, 5}};
        for (int[] row : due) {
            x.told(0, 0, 0, row[0]);
            x.told(0, 1, 0, row[1]);
            Edges.promise(57, "in least terms, with the sign");
            Edges.due(x, "expected(0, 1)", 6 * row[0] + 4 * row[1]);
            Edges.due(x, "above()", row[2]);
            Edges.promise(58, "1 or more");
            Edges.due(x, "below()", row[3]);
        }
        Edges.promise(57, "the fraction shown last: by has() or expected() alone");
        x = rich();
        Edges.board(x, 3, 7);
        for (String call : new String[] {"solve(0)", "front(0)", "robust(0)", "regret(0, 1)", "choices(0, 0)",
            "best(0, 1)", "prove(0)",
            "search(0, 1, 2, 3, 4)", "near(0, true)"}) {
            Edges.ask(x, call);
            Edges.board(x, 3, 7);
        }
        refused(3, "above()");
        Edges.promise(58, "the fraction shown last: by has() or expected() alone");
        refused(7, "below()");
    }
}
