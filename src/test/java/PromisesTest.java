import java.util.Arrays;

/** Each promise of the document by its number: ordinary inputs, the edges that it names, and wrong inputs. */
public final class PromisesTest {
    private static final long NO = PlanningHouse.NO;
    private static final int NONE = PlanningHouse.NONE;
    private static final int FULL = PlanningHouse.FULL;
    private static final int MOST = Integer.MAX_VALUE;
    private static final int LEAST = Integer.MIN_VALUE;

    // 3 * 3 * 2 plans; r0 and r1 are hard, r2 and r3 are not.
    private static final String SHOP =
        "fact cap = 3; var a in 0..2; var b in { 2, 0, -1 }; var c in 5..6;\n"
            + "rule r0 at 0*2: a # b; rule r2 at 1*10: a >= b; % soft\n rule r1 at 0*3: a + b <= cap;"
            + "rule r3 at 2*1: c = 5; aim cost at 2: a * c; aim gain at 1: - b;";

    private static int wrong = 0;
    private static int promise = 0;

    private static void due(String what, long got, long want) {
        if (got != want) {
            wrong++;
            System.out.println("promise " + promise + ": " + what + " answered " + got + ", due is " + want);
        }
    }

    private static void due(String what, boolean got, boolean want) {
        due(what, got ? 1 : 0, want ? 1 : 0);
    }

    private static void type(PlanningHouse x, String s) {
        for (int i = 0; i < s.length(); i++) {
            x.type(s.charAt(i), 1);
        }
    }

    private static PlanningHouse with(String text) {
        PlanningHouse x = new PlanningHouse();
        due("a problem", read(x, text), 0);
        return x;
    }

    private static int read(PlanningHouse x, String text) {
        x.cut(0);
        type(x, text);
        return x.problem();
    }

    /** That a text has a fault: its code, at its place. */
    private static void fault(int code, int place, String text) {
        PlanningHouse x = new PlanningHouse();
        due("problem() of " + text, read(x, text), -1 - place);
        due("fault() of " + text, x.fault(), code);
        due("the tape behind " + text, x.cut(0), 0);
    }

    /** The same, the place being where a mark stands, which is no part of the text. */
    private static void faultAt(int code, String marked) {
        int place = marked.indexOf('@');
        fault(code, place, marked.substring(0, place) + marked.substring(place + 1));
    }

    private static void right(String text) {
        PlanningHouse x = new PlanningHouse();
        due("problem() of " + text, read(x, text), 0);
        due("fault() of " + text, x.fault(), 0);
    }

    private static void plan(PlanningHouse x, int p, int... values) {
        for (int v = 0; v < values.length; v++) {
            due("value(" + p + ", " + v + ")", x.value(p, v), values[v]);
        }
    }

    private static void put(PlanningHouse x, int... values) {
        for (int v = 0; v < values.length; v++) {
            due("put(0, " + v + ", " + values[v] + ")", x.put(0, v, values[v]), true);
        }
    }

    private static void board(PlanningHouse x, long above, long below) {
        due("above()", x.above(), above);
        due("below()", x.below(), below);
    }

    /** By what the test of one rule is broken, with values for the vars a, b, c, d of ranges -3 .. 3. */
    private static void broken(long by, String test, int... values) {
        PlanningHouse x = with("fact f = 7; var a in -3..3; var b in -3..3; var c in -3..3; var d in -3..3;"
            + "rule r at 1*1: " + test + ";");
        put(x, values);
        due(test + " with " + Arrays.toString(values), x.broken(0, 0), by);
    }

    /** What a sum is, likewise. */
    private static void sum(long is, String sum, int... values) {
        PlanningHouse x = with("fact f = 7; var a in -3..3; var b in -3..3; aim m at 1: " + sum + ";");
        put(x, values);
        due(sum + " with " + Arrays.toString(values), x.aim(0, 0), is);
    }

    private static int check(PlanningHouse x, String proof) {
        x.cut(0);
        type(x, proof);
        return x.check(0);
    }

    private static void proofFault(PlanningHouse x, int code, String marked) {
        int place = marked.indexOf('@');
        String proof = marked.substring(0, place) + marked.substring(place + 1);
        due("check() of " + proof, check(x, proof), -1 - place);
        due("fault() of " + proof, x.fault(), code);
    }

    private static void newObject() {
        promise = 1;
        PlanningHouse x = new PlanningHouse();
        due("tapeAt(0)", x.tapeAt(0), NONE);
        due("cut(0)", x.cut(0), 0);
        due("drop(0)", x.drop(0), false);
        due("rows()", x.rows(), 0);
        due("size()", x.size(), 0);
        due("fault()", x.fault(), 0);
        due("searched(0)", x.searched(0), NONE);
        board(x, 0, 1);
        due("NONE", NONE, -1);
        due("NO", NO, Long.MIN_VALUE);
        due("FULL", FULL, -100000);
    }

    private static void tape() {
        PlanningHouse x = new PlanningHouse();
        promise = 2;
        due("type(.., 3)", x.type(0xFF010203L, 3), 3);
        due("tapeAt(0)", x.tapeAt(0), 1);
        due("tapeAt(2)", x.tapeAt(2), 3);
        due("type(.., 8)", x.type(-2, 8), 11);
        due("tapeAt(3)", x.tapeAt(3), 255);
        due("tapeAt(10)", x.tapeAt(10), 254);
        due("type(1, 0)", x.type(1, 0), NONE);
        due("type(1, 9)", x.type(1, 9), NONE);
        due("type(1, -1)", x.type(1, -1), NONE);
        for (int n = 11; n + 8 <= 20000; n += 8) {
            due("type", x.type(n, 8), n + 8);
        }
        due("type(1, 6)", x.type(1, 6), FULL);
        due("type(1, 9) when full", x.type(1, 9), NONE);
        due("type(1, 5)", x.type(1, 5), 20000);
        due("type(1, 1)", x.type(1, 1), FULL);
        promise = 3;
        due("cut(20001)", x.cut(20001), NONE);
        due("cut(-1)", x.cut(-1), NONE);
        due("cut(20000)", x.cut(20000), 20000);
        due("cut(2)", x.cut(2), 20000);
        due("cut(3)", x.cut(3), NONE);
        due("type behind cut", x.type(9, 1), 3);
        promise = 4;
        due("spoil(0, 256 + 6)", x.spoil(0, 262), 7);
        due("spoil(0, -1)", x.spoil(0, -1), 248);
        due("spoil(3, 1)", x.spoil(3, 1), NONE);
        due("spoil(-1, 1)", x.spoil(-1, 1), NONE);
        promise = 5;
        due("tapeAt(0)", x.tapeAt(0), 248);
        due("tapeAt(2)", x.tapeAt(2), 9);
        due("tapeAt(3)", x.tapeAt(3), NONE);
        due("tapeAt(-1)", x.tapeAt(-1), NONE);
        due("tapeAt(most)", x.tapeAt(MOST), NONE);
    }

    private static void problems() {
        promise = 6;
        PlanningHouse x = new PlanningHouse();
        for (int p = 0; p < 4; p++) {
            due("problem()", read(x, "var a in 0..1;"), p);
        }
        type(x, "var");
        due("problem() when full", x.problem(), FULL);
        promise = 7;
        due("fault() when full", x.fault(), 0);
        due("the tape stays", x.cut(0), 3);
        promise = 8;
        due("drop(2)", x.drop(2), true);
        due("drop(2) again", x.drop(2), false);
        due("drop(4)", x.drop(4), false);
        due("drop(-1)", x.drop(-1), false);
        due("drop(0)", x.drop(0), true);
        due("the least free", read(x, "var a in 0..1;"), 0);
        due("then", read(x, "var a in 0..1;"), 2);
        promise = 7;
        x.drop(0);
        due("a fault", read(x, "var"), -4);
        due("fault()", x.fault(), 2);
        due("check() without the problem", x.check(0), FULL);
        due("fault() still", x.fault(), 2);
        x.check(1);
        due("check() of nothing", x.fault(), 2);
        type(x, "<");
        due("check()", x.check(1), 0);
        due("fault() then", x.fault(), 0);
    }

    private static void tokens() {
        promise = 6;
        right("var a in 0..1;");
        right("var\ta\rin\n0 .. 1 % ; ? \n;%");
        right("var abcdefgh in 0..1;");
        faultAt(1, "var @abcdefghi in 0..1;");
        faultAt(1, "var a in @00000..1;");
        right("var a in 0000..1;");
        faultAt(1, "var a in 0..@?1;");
        faultAt(1, "@\u00e9var a in 0..1;");
        faultAt(1, "var a@'in 0..1;");
        faultAt(2, "var a in 0..1 @b %?\n ;");
        faultAt(2, "var a in 0 @. . 1;");
        faultAt(2, "var a in 0..@.1;");
        faultAt(2, "var a in 0..1@..;");
        faultAt(2, "@");
        faultAt(2, " % nothing @");
        faultAt(2, "@;");
        faultAt(2, "var a in 0..1;@;");
        faultAt(2, "var a in 0..1@");
        faultAt(2, "var @var in 0..1;");
        faultAt(2, "var a in 0..1;@a = 1;");
        right("var Var in 0..1;");
        right("var a in 0..1; rule r at 0*1:12 #a;");
        faultAt(2, "var a in 0..1; rule r at 0*1:12@a # 1;");
        faultAt(2, "var a in 0..1; rule r at 0*1:a< @=1;");
        faultAt(2, "var a in 0..1; rule r at 0*1:a@->1;");
        right("var a in 0..1; rule r at 0*1:a<-1;");
        right("var a in 0..1; rule r at 0*1:a=1->a=1;");
        faultAt(2, "var a in 0..1; rule r at 0*1:a=1@!;");
        faultAt(2, "@.");
    }

    private static void grammar() {
        promise = 6;
        String vars = "fact f = -9999; var a in 0..1; var b in 0..1; ";
        right(vars + "rule r at 2*1000: a = 1 | b = 1 & ~ a = b -> { a < 1 -> b > a } ;");
        right(vars + "aim m at 1: - - a + abs(a - b) * min(a) - max(a, b, 1) + pick(a : -3, 4) + [a = b] * (f);");
        faultAt(2, vars + "rule r at 1*1: a@;");
        faultAt(2, vars + "rule r at 1*1: (a @= b);");
        faultAt(2, vars + "rule r at 1*1: { a @} ;");
        faultAt(2, vars + "rule r at 1*1: a = b @= 1;");
        faultAt(2, vars + "aim m at 1: a @= b;");
        faultAt(2, vars + "aim m at 1: @all (a);");
        faultAt(2, vars + "aim m at 1: abs @a;");
        faultAt(2, vars + "aim m at 1: abs(a @, b);");
        faultAt(2, vars + "aim m at 1: min(@);");
        faultAt(2, vars + "aim m at 1: pick(a @, 1);");
        faultAt(2, vars + "aim m at 1: pick(a : @b);");
        faultAt(2, vars + "aim m at 1@*1: a;");
        faultAt(2, vars + "rule r at 1 @: a = b;");
        faultAt(2, vars + "rule r at @-1*1: a = b;");
        faultAt(2, vars + "fact g = @a;");
        faultAt(2, vars + "fact g = - @- 1;");
        faultAt(2, "var a in { @};");
        faultAt(2, "var a in { 1, @};");
        faultAt(2, "var a in { 1 @2 };");
        faultAt(2, "var a in 1@, 2;");
        right("var a in {1};");
        right(vars + "rule r at 1*1: row(a, b : (1, -1), (-9999, 9999));");
        faultAt(2, vars + "rule r at 1*1: row(a, b : (1@));");
        faultAt(2, vars + "rule r at 1*1: row(a, b : (1, 2@, 3));");
        faultAt(2, vars + "rule r at 1*1: row(a, b @);");
        right(vars + "rule r at 1*1: lex(a, b : b, a);");
        faultAt(2, vars + "rule r at 1*1: lex(a, b : b@);");
        faultAt(2, vars + "rule r at 1*1: lex(a, b : b, a@, a);");
        right(vars + "rule r at 1*1: auto(a, b : (0, -5, 9), (9, 1, 0) : 0, 9);");
        faultAt(2, vars + "rule r at 1*1: auto(a : (0, 1, 1)@);");
        faultAt(2, vars + "rule r at 1*1: auto(a : (@-1, 1, 1) : 0);");
        right(vars + "rule r at 1*1: busy(9999 : (a, 9999, 9999), (a, 0, 0));");
        faultAt(2, vars + "rule r at 1*1: busy(@-1 : (a, 1, 1));");
        faultAt(2, vars + "rule r at 1*1: busy(1 : (a, 1@));");
        right(vars + "rule r at 1*1: apart((a, b, 1, 1));");
        faultAt(2, vars + "rule r at 1*1: apart((a, @1, 1, 1));");
        faultAt(2, vars + "rule r at 1*1: all(a, @1);");
        faultAt(2, vars + "rule r at 1*1: ring(@);");
    }

    private static String times(String s, int n) {
        StringBuilder all = new StringBuilder(s);
        for (int i = 1; i < n; i++) {
            all.append(',').append(s);
        }
        return all.toString();
    }

    private static void tooMany() {
        promise = 6;
        String a = "var a in 0..1;";
        right(a + "rule r at 1*1: all(" + times("a", 12) + ");");
        faultAt(2, a + "rule r at 1*1: all(" + times("a", 12) + "@,a);");
        right(a + "rule r at 1*1: row(a:" + times("(1)", 40) + ");");
        faultAt(2, a + "rule r at 1*1: row(a:" + times("(1)", 40) + "@,(1));");
        right(a + "rule r at 1*1: auto(a:" + times("(1,1,1)", 40) + ":" + times("1", 10) + ");");
        faultAt(2, a + "rule r at 1*1: auto(a:" + times("(1,1,1)", 40) + "@,(1,1,1):1);");
        faultAt(2, a + "rule r at 1*1: auto(a:(1,1,1):" + times("1", 10) + "@,1);");
        right(a + "rule r at 1*1: busy(1:" + times("(a,1,1)", 40) + ");");
        faultAt(2, a + "rule r at 1*1: busy(1:" + times("(a,1,1)", 40) + "@,(a,1,1));");
        right(a + "rule r at 1*1: apart(" + times("(a,a,1,1)", 40) + ");");
        faultAt(2, a + "rule r at 1*1: apart(" + times("(a,a,1,1)", 40) + "@,(a,a,1,1));");
        right(a + "aim m at 1: min(" + times("a", 20) + ");");
        faultAt(2, a + "aim m at 1: min(" + times("a", 20) + "@,a);");
        right(a + "aim m at 1: pick(a:" + times("1", 20) + ");");
        faultAt(2, a + "aim m at 1: pick(a:" + times("1", 20) + "@,1);");
    }

    private static void depth() {
        promise = 6;
        String a = "var a in 0..1; ";
        right(a + "aim m at 1: " + "(".repeat(12) + "a" + ")".repeat(12) + ";");
        faultAt(7, a + "aim m at 1: " + "(".repeat(12) + "@(a;");
        right(a + "aim m at 1: " + "-".repeat(12) + "a - a;");
        faultAt(7, a + "aim m at 1: a - " + "-".repeat(12) + "@-a;");
        right(a + "rule r at 1*1: " + "~".repeat(12) + "a = 1;");
        faultAt(7, a + "rule r at 1*1: " + "~".repeat(12) + "a = @-1;");
        faultAt(7, a + "rule r at 1*1: " + "~".repeat(12) + "@~a = 1;");
        right(a + "rule r at 1*1: " + "~".repeat(12) + "a = 1 & " + "~".repeat(12) + "a = 1;");
        right(a + "rule r at 1*1: " + "a=1->".repeat(12) + "a=1;");
        faultAt(7, a + "rule r at 1*1: " + "a=1->".repeat(12) + "a=1@->a=1;");
        right(a + "rule r at 1*1: " + "{".repeat(12) + "a=1" + "}".repeat(12) + "->a=1;");
        faultAt(7, a + "rule r at 1*1: " + "{".repeat(12) + "a=1@->a=1;");
        faultAt(7, a + "rule r at 1*1: " + "{".repeat(12) + "@{a=1;");
        faultAt(7, a + "aim m at 1: " + "[1=".repeat(12) + "@[1=1;");
        faultAt(7, a + "aim m at 1: " + "abs(".repeat(12) + "abs@(a);");
        faultAt(7, a + "aim m at 1: " + "abs(".repeat(12) + "pick@(a:1);");
        faultAt(2, a + "aim m at 1: " + "abs(".repeat(12) + "min @a;");
        right(a + "aim m at 1: " + "max(1,".repeat(12) + "a" + ")".repeat(12) + ";");
        right(a + "rule r at 1*1: " + "~".repeat(12) + "row(a:(-1));");
        right(a + "rule r at 1*1: " + "{".repeat(12) + "all(a)" + "}".repeat(12) + ";");
        // A [ and a ~ within it, a - before a ( and so on are counted together.
        faultAt(7, a + "aim m at 1: -[~{-(-[~{-(@-a;");
    }

    private static void names() {
        promise = 6;
        String a = "fact f = 1; var a in 0..1; rule r at 1*1: a = f; aim m at 1: a; ";
        for (String name : new String[] {"f", "a", "r", "m"}) {
            faultAt(3, a + "fact @" + name + " = 1;");
            faultAt(3, a + "var @" + name + " in 0..1;");
            faultAt(3, a + "rule @" + name + " at 1*1: a = 1;");
            faultAt(3, a + "aim @" + name + " at 1: 1;");
        }
        for (String name : new String[] {"r", "m", "zz", "A"}) {
            faultAt(4, a + "aim n at 1: @" + name + ";");
        }
        right(a + "aim n at 1: f + a;");
        for (String name : new String[] {"f", "r", "m", "zz"}) {
            faultAt(4, a + "rule n at 1*1: all(a,@" + name + ");");
            faultAt(4, a + "rule n at 1*1: lex(a:@" + name + ");");
            faultAt(4, a + "rule n at 1*1: busy(1:(@" + name + ",1,1));");
            faultAt(4, a + "rule n at 1*1: apart((a,@" + name + ",1,1));");
        }
        faultAt(4, "var a in 0..1; rule r at 1*1: @r = 1;");
        faultAt(4, "rule r at 1*1: @a = 1; var a in 0..1;");
    }

    private static void numbers() {
        promise = 6;
        right("var a in -99..-80;");
        right("var a in {99, -99, 0};");
        faultAt(5, "var a in @100..101;");
        faultAt(5, "var a in -@100..1;");
        faultAt(5, "var a in 0..@100;");
        faultAt(5, "var a in 3..@2;");
        faultAt(5, "var a in 1..-@2;");
        right("var a in 2..2;");
        faultAt(5, "var a in {1, 2, @1};");
        faultAt(5, "var a in {0, -@0};");
        faultAt(5, "var a in {1, -@100};");
        String a = "var a in 0..1; ";
        faultAt(5, a + "rule r at @3*1: a = 1;");
        faultAt(5, a + "rule r at 2*@0: a = 1;");
        faultAt(5, a + "rule r at 2*@1001: a = 1;");
        right(a + "rule r at 00*1000: a = 1;");
        faultAt(5, a + "aim m at @0: a;");
        faultAt(5, a + "aim m at @3: a;");
        faultAt(5, a + "rule r at 1*1: auto(a:(@10,1,1):1);");
        faultAt(5, a + "rule r at 1*1: auto(a:(1,1,@10):1);");
        faultAt(5, a + "rule r at 1*1: auto(a:(1,10,1):@10);");
    }

    private static String several(String before, String behind, int n) {
        StringBuilder s = new StringBuilder();
        for (int i = 0; i < n; i++) {
            s.append(before).append("n").append(before.charAt(0)).append(i).append(behind);
        }
        return s.toString();
    }

    private static void limits() {
        promise = 6;
        String a = "var a in 0..1; ";
        right(a + several("fact ", " = 1;", 16));
        faultAt(6, a + several("fact ", " = 1;", 16) + "fact @x = 1;");
        faultAt(3, a + several("fact ", " = 1;", 16) + "fact @a = 1;");
        right(several("var ", " in 0..1;", 12));
        faultAt(6, several("var ", " in 0..1;", 12) + "var @x in 0..0;");
        right(a + several("rule ", " at 1*1: a=1;", 24));
        faultAt(6, a + several("rule ", " at 1*1: a=1;", 24) + "rule @x at 1*1: a=1;");
        right(a + several("aim ", " at 1: a;", 6));
        faultAt(6, a + several("aim ", " at 1: a;", 6) + "aim @x at 1: a;");
        right(a + several("rule ", " at 0*1: a=1;", 12) + "rule x at 1*1: a=1;");
        faultAt(6, a + several("rule ", " at 0*1: a=1;", 12) + "rule x at @0*1: a=1;");
        right("var a in 1..20;");
        faultAt(6, "var @a in 1..21;");
        faultAt(6, "var @a in -10..10;");
        faultAt(2, "var a in 1..21@");
        faultAt(1, "var a in 1..21@?;");
        faultAt(5, "var a in {1,2,3,4,5,6,7,8,9,10,11,12,13,14,15,16,17,18,19,20,21,@1};");
        faultAt(6, "var @a in {1,2,3,4,5,6,7,8,9,10,11,12,13,14,15,16,17,18,19,20,21};?");
        right("var a in 1..20; var b in 1..20; var c in 1..10; var d in 1..5; var e in 1..1;");
        faultAt(6, "var a in 1..20; var b in 1..20; var c in 1..10; var d in 1..5; var @e in 1..2;");
        faultAt(6, "fact f = 1;@");
        faultAt(6, "fact f = 1; % no var@");
        // 20000 plans and 1000 tokens may be, and one token more may not: 4 vars have 28, the aim 8 and its sums.
        String vars = "var a in 1..20; var b in 1..20; var c in 1..10; var d in 1..5;";
        right(vars + "aim m at 1: -1" + "+1".repeat(482) + ";");
        faultAt(6, vars + "aim m at 1: - -1" + "+1".repeat(482) + ";@");
    }

    private static void counts() {
        promise = 9;
        PlanningHouse x = with(SHOP);
        int[] due = {1, 3, 4, 2, 18, 18, 2, 0, SHOP.length()};
        for (int what = 0; what < due.length; what++) {
            due("count(0, " + what + ")", x.count(0, what), due[what]);
        }
        due("count(0, 9)", x.count(0, 9), NONE);
        due("count(0, -1)", x.count(0, -1), NONE);
        due("count(1, 0)", x.count(1, 0), NONE);
        due("count(-1, 0)", x.count(-1, 0), NONE);
        x.pin(0, 1, true);
        due("allowed", x.count(0, 5), 6);
        due("plans", x.count(0, 4), 18);
        x.future(0, 3);
        due("futures", x.count(0, 7), 1);

        promise = 10;
        String[] names = {"cap", "a", "b", "c", "r0", "r2", "r1", "r3", "cost", "gain", "d", "all", " a", "a ", "", "A",
            "abcdefghi", "a%", "0"};
        int[] numbers = {0, 100, 101, 102, 200, 201, 202, 203, 300, 301, -1, -1, -1, -1, -1, -1, -1, -1, -1};
        for (int i = 0; i < names.length; i++) {
            x.cut(0);
            type(x, names[i]);
            due("find(0) of " + names[i], x.find(0), numbers[i]);
            due("the tape stays", x.cut(0), names[i].length());
        }
        type(x, "a");
        due("find(1)", x.find(1), NONE);
        due("find(-1)", x.find(-1), NONE);

        promise = 11;
        due("letter(0, 0, 0, 2)", x.letter(0, 0, 0, 2), 'p');
        due("letter(0, 1, 2, 0)", x.letter(0, 1, 2, 0), 'c');
        due("letter(0, 2, 1, 1)", x.letter(0, 2, 1, 1), '2');
        due("letter(0, 3, 1, 0)", x.letter(0, 3, 1, 0), 'g');
        due("letter(0, 0, 0, 3)", x.letter(0, 0, 0, 3), NONE);
        due("letter(0, 0, 0, -1)", x.letter(0, 0, 0, -1), NONE);
        due("letter(0, 0, 1, 0)", x.letter(0, 0, 1, 0), NONE);
        due("letter(0, 0, -1, 0)", x.letter(0, 0, -1, 0), NONE);
        due("letter(0, 4, 0, 0)", x.letter(0, 4, 0, 0), NONE);
        due("letter(0, -1, 0, 0)", x.letter(0, -1, 0, 0), NONE);
        due("letter(1, 0, 0, 0)", x.letter(1, 0, 0, 0), NONE);
        PlanningHouse y = with("var abcdefgh in 0..1;");
        for (int i = 0; i < 8; i++) {
            due("letter", y.letter(0, 1, 0, i), 'a' + i);
        }
        due("letter(.., 8)", y.letter(0, 1, 0, 8), NONE);
    }

    private static void shownAndRanges() {
        promise = 12;
        PlanningHouse x = with("fact  f=-007 ;%x\nvar a in{0,- 1}; rule r at 0*1:a<=f->~a=0;");
        String[] shown = {"fact f = - 007 ;", "var a in { 0 , - 1 } ;", "rule r at 0 * 1 : a <= f -> ~ a = 0 ;"};
        for (int k = 0; k < shown.length; k++) {
            for (int i = 0; i < shown[k].length(); i++) {
                due("shown(0, " + k + ", " + i + ")", x.shown(0, k, i), shown[k].charAt(i));
            }
            due("shown behind", x.shown(0, k, shown[k].length()), NONE);
            due("shown far behind", x.shown(0, k, MOST), NONE);
            due("shown before", x.shown(0, k, -1), NONE);
        }
        due("shown(0, 3, 0)", x.shown(0, 3, 0), NONE);
        due("shown(0, -1, 0)", x.shown(0, -1, 0), NONE);
        due("shown(1, 0, 0)", x.shown(1, 0, 0), NONE);

        promise = 13;
        x = with(SHOP);
        due("range(0, 1, 0)", x.range(0, 1, 0), 2);
        due("range(0, 1, 2)", x.range(0, 1, 2), -1);
        due("range(0, 2, 1)", x.range(0, 2, 1), 6);
        due("range(0, 2, 2)", x.range(0, 2, 2), NO);
        due("range(0, 2, -1)", x.range(0, 2, -1), NO);
        due("range(0, 3, 0)", x.range(0, 3, 0), NO);
        due("range(0, -1, 0)", x.range(0, -1, 0), NO);
        due("range(1, 0, 0)", x.range(1, 0, 0), NO);

        promise = 14;
        int[][] rules = {{0, 2, 3, 1}, {1, 10, 3, 1}, {0, 3, 3, 1}, {2, 1, 4, 1}};
        for (int r = 0; r < 4; r++) {
            for (int what = 0; what < 4; what++) {
                due("rule(0, " + r + ", " + what + ")", x.rule(0, r, what), rules[r][what]);
            }
        }
        due("rule(0, 0, 4)", x.rule(0, 0, 4), NONE);
        due("rule(0, 0, -1)", x.rule(0, 0, -1), NONE);
        due("rule(0, 4, 0)", x.rule(0, 4, 0), NONE);
        due("rule(0, -1, 0)", x.rule(0, -1, 0), NONE);
        due("rule(1, 0, 0)", x.rule(1, 0, 0), NONE);
        x.change(0, 0, 4);
        due("r1 is never broken with cap = 4", x.rule(0, 2, 3), 0);
        x.change(0, 0, 3);
        x.pin(0, 0, true);
        due("pins do not matter", x.rule(0, 2, 3), 1);
    }

    private static void state() {
        PlanningHouse x = with(SHOP);
        promise = 15;
        due("fact(0, 0)", x.fact(0, 0), 3);
        due("fact(0, 1)", x.fact(0, 1), NO);
        due("fact(0, -1)", x.fact(0, -1), NO);
        due("fact(1, 0)", x.fact(1, 0), NO);
        due("a fact below 0", with("fact f = -12; var a in 0..0;").fact(0, 0), -12);
        promise = 16;
        due("change(0, 0, -9999)", x.change(0, 0, -9999), true);
        due("fact(0, 0)", x.fact(0, 0), -9999);
        due("change(0, 0, 10000)", x.change(0, 0, 10000), false);
        due("change(0, 0, -10000)", x.change(0, 0, -10000), false);
        due("change(0, 0, least)", x.change(0, 0, LEAST), false);
        due("change(0, 1, 1)", x.change(0, 1, 1), false);
        due("change(0, -1, 1)", x.change(0, -1, 1), false);
        due("change(1, 0, 1)", x.change(1, 0, 1), false);
        due("fact(0, 0) still", x.fact(0, 0), -9999);
        due("none feasible", x.feasibles(0), 0);
        due("change(0, 0, 9999)", x.change(0, 0, 9999), true);
        due("feasibles", x.feasibles(0), 14);
        x.change(0, 0, 3);
        promise = 17;
        plan(x, 0, 0, 2, 5);
        due("value(0, 3)", x.value(0, 3), NO);
        due("value(0, -1)", x.value(0, -1), NO);
        due("value(1, 0)", x.value(1, 0), NO);
        promise = 18;
        due("put(0, 1, -1)", x.put(0, 1, -1), true);
        due("put(0, 1, 1)", x.put(0, 1, 1), false);
        due("put(0, 3, 1)", x.put(0, 3, 1), false);
        due("put(0, -1, 1)", x.put(0, -1, 1), false);
        due("put(1, 0, 1)", x.put(1, 0, 1), false);
        plan(x, 0, 0, -1, 5);
        promise = 19;
        due("pin(0, 1, true)", x.pin(0, 1, true), false);
        due("pin(0, 1, true)", x.pin(0, 1, true), true);
        due("pinned and put", x.put(0, 1, 0), true);
        due("allowed", x.count(0, 5), 6);
        due("pin(0, 1, false)", x.pin(0, 1, false), true);
        due("pin(0, 1, false)", x.pin(0, 1, false), false);
        due("pin(0, 3, true)", x.pin(0, 3, true), false);
        due("pin(0, -1, true)", x.pin(0, -1, true), false);
        due("pin(1, 0, true)", x.pin(1, 0, true), false);
        due("allowed", x.count(0, 5), 18);
        promise = 20;
        due("weigh(0, 0, 1000)", x.weigh(0, 0, 1000), 1);
        due("weigh(0, 0, 0)", x.weigh(0, 0, 0), 1000);
        due("weigh(0, 0, 1001)", x.weigh(0, 0, 1001), NONE);
        due("weigh(0, 0, -1)", x.weigh(0, 0, -1), NONE);
        due("weigh(0, 3, 1)", x.weigh(0, 3, 1), NONE);
        due("weigh(1, 0, 1)", x.weigh(1, 0, 1), NONE);
        due("weigh(0, 0, 5)", x.weigh(0, 0, 5), 0);
    }

    private static void scores() {
        PlanningHouse x = with(SHOP);
        put(x, 2, 2, 6);
        promise = 21;
        int[] broken = {1, 0, 1, 1};
        for (int r = 0; r < 4; r++) {
            due("broken(0, " + r + ")", x.broken(0, r), broken[r]);
        }
        due("broken(0, 4)", x.broken(0, 4), NONE);
        due("broken(0, -1)", x.broken(0, -1), NONE);
        due("broken(1, 0)", x.broken(1, 0), NONE);
        promise = 22;
        due("aim(0, 0)", x.aim(0, 0), 12);
        due("aim(0, 1)", x.aim(0, 1), -2);
        due("aim(0, 2)", x.aim(0, 2), NO);
        due("aim(0, -1)", x.aim(0, -1), NO);
        due("aim(1, 0)", x.aim(1, 0), NO);
        promise = 23;
        due("score(0, 0)", x.score(0, 0), 5);
        due("score(0, 1)", x.score(0, 1), -2);
        due("score(0, 2)", x.score(0, 2), 13);
        due("score(0, 3)", x.score(0, 3), NO);
        due("score(0, -1)", x.score(0, -1), NO);
        due("score(1, 0)", x.score(1, 0), NO);
        PlanningHouse y = with("var a in 0..0; rule r at 0*1000: 9999 * 9999 = - 9999 * 9999;");
        due("a great score", y.score(0, 0), 2000000000L);
        y = with("var a in 0..0; rule r at 1*1000: 9999 * 9999 = - 9999 * 9999;"
            + "rule s at 1*1000: 9999 * 9999 < - 9999 * 9999;");
        due("a greater score", y.score(0, 1), 4000001000L);
        promise = 24;
        due("feasible(0)", x.feasible(0), false);
        put(x, 1, 2, 6);
        due("feasible(0)", x.feasible(0), true);
        due("feasible(1)", x.feasible(1), false);
        due("feasible(-1)", x.feasible(-1), false);
    }

    private static void sums() {
        promise = 22;
        sum(3, "1 + 2", 0, 0);
        sum(-4, "1 - 2 - 3", 0, 0);
        sum(7, "1 + 2 * 3", 0, 0);
        sum(9, "(1 + 2) * 3", 0, 0);
        sum(-6, "a * b", 2, -3);
        sum(2, "- - a", 2, 0);
        sum(14, "f * 2", 0, 0);
        sum(5, "abs(a - b)", -2, 3);
        sum(-3, "min(a, b, 2)", 1, -3);
        sum(2, "max(a, b, 2)", 1, -3);
        sum(-1, "min(a)", -1, 0);
        sum(1000000, "9999 * 9999", 0, 0);
        sum(-1000000, "- 9999 * 9999", 0, 0);
        sum(990001, "9999 * 9999 - 9999", 0, 0);
        sum(1000000, "9999 * 9999 + 9999", 0, 0);
        sum(0, "9999 * 9999 * 9999 - 9999 * 9999", 0, 0);
        sum(5, "pick(a : 5, -6, 7)", 0, 0);
        sum(-6, "pick(a : 5, -6, 7)", 1, 0);
        sum(0, "pick(a : 5, -6, 7)", 3, 0);
        sum(0, "pick(a : 5, -6, 7)", -1, 0);
        sum(1, "[a = 1]", 1, 0);
        sum(0, "[a = 1]", 0, 0);
        sum(2, "[a = 1 | b = 1] + [a = 1 -> b = 1]", 1, 1);
    }

    private static void tests() {
        promise = 21;
        broken(3, "a = b", 1, -2);
        broken(0, "a = b", 1, 1);
        broken(1, "a # b", 1, 1);
        broken(0, "a # b", 1, 2);
        broken(2, "a <= b", 3, 1);
        broken(0, "a <= b", 1, 1);
        broken(3, "a < b", 3, 1);
        broken(1, "a < b", 1, 1);
        broken(0, "a < b", 0, 1);
        broken(2, "a >= b", 1, 3);
        broken(0, "a >= b", 3, 3);
        broken(3, "a > b", 1, 3);
        broken(1, "a > b", 1, 1);
        broken(5, "a = 1 & b = 1", 3, -2);
        broken(2, "a = 1 | b = 1", 3, -2);
        broken(5, "a = 1 & b = 1 | c = 3", 3, -2, -3);
        broken(0, "~ a = 1", 3);
        broken(1, "~ a = 1", 1);
        broken(0, "~ ~ a = 1", 1);
        broken(2, "a = 1 -> b = 1", 1, 3);
        broken(0, "a = 1 -> b = 1", 2, 3);
        broken(2, "a = 1 -> b = 1 -> c = 1", 1, 1, 3);
        broken(0, "{a = 1 -> b = 1} -> c = 2", 1, 2, 3);
        broken(2000000, "9999 * 9999 = - 9999 * 9999", 0);
        broken(2000001, "9999 * 9999 < - 9999 * 9999", 0);
        broken(1000000, "9999 * 9999 = - 9999 * 9999 & 1 = 1", 0);
        broken(1000000, "1 = 1 & 9999 * 9999 = - 9999 * 9999 & 1 = 2", 0);
        broken(999999, "{1 = 1 & 9999 * 9999 = 1} & 1 = 1", 0);
        broken(0, "all(a, b, c)", 1, 2, 3);
        broken(2, "all(a, b, c)", 1, 1, 1);
        broken(2, "all(a, b, c, d)", 1, 1, 3, 3);
        broken(1, "all(a, a)", 1);
        broken(0, "row(a, b : (1, 2), (3, -3))", 3, -3);
        broken(1, "row(a, b : (1, 2), (3, -3))", 1, -3);
        broken(2, "row(a, b : (1, 2), (3, -3))", 2, 3);
        broken(0, "lex(a, b : c, d)", 1, 3, 2, 0);
        broken(1, "lex(a, b : c, d)", 2, 0, 1, 3);
        broken(1, "lex(a, b : c, d)", 1, 1, 1, 0);
        broken(0, "lex(a, b : c, d)", 1, 1, 1, 1);
        broken(0, "ring(a, b, c)", 1, 2, 0);
        broken(0, "ring(a, b, c)", 0, 1, 2);
        broken(0, "ring(a, b, c)", 1, 0, 2);
        broken(1, "ring(a, b, c, d)", 1, 0, 3, 2);
        broken(0, "ring(a, b, c, d)", 3, 1, 0, 2);
        broken(1, "ring(a, b, c)", 1, 1, 0);
        broken(1, "ring(a, b, c)", 1, 2, 3);
        broken(1, "ring(a, b)", -1, 0);
        broken(0, "ring(a)", 0);
        broken(0, "auto(a, b : (0, 1, 1), (0, 1, 2), (1, -2, 0) : 0)", 1, -2);
        broken(1, "auto(a, b : (0, 1, 1), (0, 1, 2), (2, -2, 0) : 0)", 1, -2);
        broken(1, "auto(a, b : (0, 1, 1), (1, -2, 3) : 0, 1)", 1, -2);
        broken(0, "auto(a, b : (0, 1, 1), (1, -2, 3) : 0, 3)", 1, -2);
        broken(1, "auto(a : (1, 1, 1) : 1)", 1);
        broken(0, "busy(5 : (a, 2, 3), (b, 2, 2))", 0, 1);
        broken(1, "busy(4 : (a, 2, 3), (b, 2, 2))", 0, 1);
        broken(0, "busy(4 : (a, 2, 3), (b, 2, 2))", 0, 2);
        broken(3, "busy(0 : (a, 2, 3), (b, 2, 2))", 0, 2);
        broken(5, "busy(0 : (a, 2, 3), (b, 2, 2))", -3, -2);
        broken(0, "busy(0 : (a, 0, 3), (b, 2, 0))", 0, 0);
        broken(1, "apart((a, b, 2, 2), (c, d, 2, 2))", 0, 0, 1, 1);
        broken(0, "apart((a, b, 2, 2), (c, d, 2, 2))", 0, 0, 2, 1);
        broken(0, "apart((a, b, 2, 2), (c, d, 2, 2))", 0, 0, 1, -2);
        broken(3, "apart((a, b, 2, 2), (c, d, 2, 2), (a, d, 3, 3))", 0, 0, 1, 1);
        broken(1, "apart((a, b, 2, 2), (c, d, 0, 2))", 0, 0, 1, 1);
        broken(0, "apart((a, b, 2, 2), (c, d, 0, 2))", 0, 0, 0, 1);
    }

    private static void left() {
        promise = 25;
        PlanningHouse x = with("var a in 0..3; var b in 0..3; var c in 0..1; rule r at 0*1: a > b; rule s at 0*1: b > 0;"
            + "rule t at 1*1: c = 1;");
        due("reach(0)", x.reach(0), 2 + 2 + 2);
        promise = 26;
        boolean[] a = {false, false, true, true};
        boolean[] b = {false, true, true, false};
        for (int k = 0; k < 4; k++) {
            due("isLeft(0, 0, " + k + ")", x.isLeft(0, 0, k), a[k]);
            due("isLeft(0, 1, " + k + ")", x.isLeft(0, 1, k), b[k]);
        }
        due("isLeft(0, 2, 0)", x.isLeft(0, 2, 0), true);
        due("isLeft(0, 2, 2)", x.isLeft(0, 2, 2), false);
        due("isLeft(0, 2, -1)", x.isLeft(0, 2, -1), false);
        due("isLeft(0, 3, 0)", x.isLeft(0, 3, 0), false);
        due("isLeft(1, 0, 0)", x.isLeft(1, 0, 0), false);
        put(x, 2, 0, 0);
        x.pin(0, 0, true);
        due("as things are now", x.isLeft(0, 1, 2), false);
        promise = 25;
        due("reach(0)", x.reach(0), 1 + 1 + 2);
        put(x, 0, 0, 0);
        due("all go", x.reach(0), 0);
        due("also c's", x.isLeft(0, 2, 0), false);
        due("reach(1)", x.reach(1), NONE);
        due("without hard rules", with("var a in 0..2; rule r at 1*1: a = 7;").reach(0), 3);
        promise = 27;
        due("hopeless(0)", x.hopeless(0), 0);
        put(x, 1, 0, 0);
        due("hopeless(0)", x.hopeless(0), NONE);
        due("but nothing is left", x.reach(0), 0);
        due("hopeless(1)", x.hopeless(1), NONE);
        x = with("var a in 0..1; rule q at 1*1: a = 5; rule r at 0*1: a = 1; rule s at 0*1: a = 2;");
        due("s is hopeless", x.hopeless(0), 2);
    }

    private static void best() {
        promise = 28;
        PlanningHouse x = with(SHOP);
        due("solve(0)", x.solve(0), 1);
        plan(x, 0, 1, 0, 5);
        due("solve(1)", x.solve(1), NONE);
        promise = 29;
        due("best(0, 0)", x.best(0, 0), 0);
        due("best(0, 1)", x.best(0, 1), 0);
        due("best(0, 2)", x.best(0, 2), 5);
        due("best(0, 3)", x.best(0, 3), NO);
        due("best(0, -1)", x.best(0, -1), NO);
        due("best(1, 0)", x.best(1, 0), NO);
    }

    /** 2 * 3 * 2 plans; feasible are those with a + b + c = 2. */
    private static final String TWO = "var a in 0..1; var b in 0..2; var c in 0..1; fact f = 2;"
        + "rule sum at 0*1: a + b + c = f; aim m at 1: a; rule q at 2*3: c = 1;";

    private static void bestOnes() {
        promise = 28;
        // Feasible: 0 1 1, 0 2 0, 1 0 1, 1 1 0, with scores 0 0, 0 3, 1 0, 1 3.
        PlanningHouse x = with(TWO);
        due("solve(0)", x.solve(0), 1);
        plan(x, 0, 0, 1, 1);
        x.change(0, 0, 9);
        put(x, 1, 2, 0);
        due("solve(0) of none", x.solve(0), 0);
        plan(x, 0, 1, 2, 0);
        promise = 29;
        due("best(0, 0) of none", x.best(0, 0), NO);
        promise = 30;
        due("bests(0) of none", x.bests(0), 0);
        x.change(0, 0, 2);
        due("bests(0)", x.bests(0), 1);
        due("bests(1)", x.bests(1), NONE);
        promise = 31;
        PlanningHouse y = with("var a in {3, 1, 2}; var b in 0..1; rule r at 0*1: a > 1; aim m at 2: b;");
        due("bests(0)", y.bests(0), 2);
        due("bestAt(0, 1)", y.bestAt(0, 1), true);
        plan(y, 0, 2, 0);
        due("bestAt(0, 0)", y.bestAt(0, 0), true);
        plan(y, 0, 3, 0);
        due("bestAt(0, 2)", y.bestAt(0, 2), false);
        due("bestAt(0, -1)", y.bestAt(0, -1), false);
        due("bestAt(1, 0)", y.bestAt(1, 0), false);
        plan(y, 0, 3, 0);
        promise = 32;
        due("feasibles(0)", x.feasibles(0), 4);
        due("feasibles(1)", x.feasibles(1), NONE);
        promise = 33;
        due("feasibleAt(0, 2)", x.feasibleAt(0, 2), true);
        plan(x, 0, 1, 0, 1);
        due("feasibleAt(0, 4)", x.feasibleAt(0, 4), false);
        due("feasibleAt(0, -1)", x.feasibleAt(0, -1), false);
        due("feasibleAt(1, 0)", x.feasibleAt(1, 0), false);
        plan(x, 0, 1, 0, 1);
        x.pin(0, 0, true);
        due("pinned", x.feasibles(0), 2);
        due("feasibleAt(0, 1)", x.feasibleAt(0, 1), true);
        plan(x, 0, 1, 1, 0);
        promise = 28;
        due("solve(0)", x.solve(0), 1);
        plan(x, 0, 1, 0, 1);
        due("best(0, 1)", x.best(0, 1), 1);
    }

    private static void having() {
        promise = 34;
        PlanningHouse x = with(TWO);
        due("has(0, 1, 1, false)", x.has(0, 1, 1, false), 2);
        board(x, 1, 2);
        due("has(0, 1, 1, true)", x.has(0, 1, 1, true), 1);
        board(x, 1, 1);
        due("has(0, 1, 2, false)", x.has(0, 1, 2, false), 1);
        board(x, 1, 4);
        due("has(0, 3, 1, false)", x.has(0, 3, 1, false), NONE);
        due("has(0, -1, 1, false)", x.has(0, -1, 1, false), NONE);
        due("has(1, 0, 1, false)", x.has(1, 0, 1, false), NONE);
        board(x, 1, 4);
        due("has(0, 1, 7, false)", x.has(0, 1, 7, false), 0);
        board(x, 0, 1);
        x.has(0, 1, 2, false);
        x.change(0, 0, 9);
        due("has(0, 1, 1, false) of none", x.has(0, 1, 1, false), 0);
        board(x, 0, 1);
        promise = 35;
        due("choices(0, 0) of none", x.choices(0, 0), 0);
        x.change(0, 0, 2);
        due("choices(0, 0)", x.choices(0, 0), 1);
        due("choices(0, 3)", x.choices(0, 3), NONE);
        due("choices(0, -1)", x.choices(0, -1), NONE);
        due("choices(1, 0)", x.choices(1, 0), NONE);
        due("choices", with("var a in 0..4; var b in 0..9; rule r at 0*1: a + b = 3;").choices(0, 1), 4);
        promise = 36;
        x.pin(0, 1, true);
        put(x, 1, 0, 0);
        due("mend(0, 1)", x.mend(0, 1), 0);
        plan(x, 0, 1, 0, 0);
        due("mend(0, 2)", x.mend(0, 2), 1);
        plan(x, 0, 1, 1, 0);
        due("mend(0, 6)", x.mend(0, 6), 1);
        plan(x, 0, 1, 0, 1);
        due("mend(0, -1)", x.mend(0, -1), 1);
        plan(x, 0, 0, 1, 1);
        due("mend(0, 8)", x.mend(0, 8), 1);
        plan(x, 0, 0, 1, 1);
        put(x, 0, 0, 0);
        due("mend(0, 8)", x.mend(0, 8), 0);
        due("mend(1, 1)", x.mend(1, 1), NONE);
    }

    private static void fronts() {
        promise = 37;
        // Scores a at level 1 and 4 - a at level 2, but for a = 2: 2 and 4; b only doubles the plans with a = 1.
        PlanningHouse x = with("var a in {3, 2, 1, 0}; var b in 0..1; rule r at 0*1: b = 0 | a = 1;"
            + "aim m at 1: a; aim n at 2: 4 - a + 2 * [a = 2];");
        due("front(0)", x.front(0), 3);
        due("front(1)", x.front(1), NONE);
        promise = 38;
        int[][] front = {{1, 0, 4}, {2, 1, 3}, {1, 3, 1}};
        for (int k = 0; k < 3; k++) {
            for (int what = 0; what < 3; what++) {
                due("frontAt(0, " + k + ", " + what + ")", x.frontAt(0, k, what), front[k][what]);
            }
        }
        due("frontAt(0, 3, 0)", x.frontAt(0, 3, 0), NO);
        due("frontAt(0, -1, 0)", x.frontAt(0, -1, 0), NO);
        due("frontAt(0, 0, 3)", x.frontAt(0, 0, 3), NO);
        due("frontAt(0, 0, -1)", x.frontAt(0, 0, -1), NO);
        due("frontAt(1, 0, 0)", x.frontAt(1, 0, 0), NO);
        promise = 39;
        due("frontPlan(0, 1)", x.frontPlan(0, 1), true);
        plan(x, 0, 1, 0);
        due("frontPlan(0, 2)", x.frontPlan(0, 2), true);
        plan(x, 0, 3, 0);
        due("frontPlan(0, 3)", x.frontPlan(0, 3), false);
        due("frontPlan(0, -1)", x.frontPlan(0, -1), false);
        due("frontPlan(1, 0)", x.frontPlan(1, 0), false);
        plan(x, 0, 3, 0);
        promise = 37;
        due("of none", with("var a in 0..1; rule r at 0*1: a = 2;").front(0), 0);
        promise = 40;
        // Feasible: 0 1 1, 0 2 0, 1 0 1, 1 1 0; the first is the best.
        x = with(TWO);
        put(x, 1, 2, 0);
        due("near(0, false)", x.near(0, false), 1);
        plan(x, 0, 0, 2, 0);
        put(x, 1, 2, 0);
        x.weigh(0, 0, 5);
        x.weigh(0, 1, 4);
        due("near(0, false)", x.near(0, false), 4);
        plan(x, 0, 1, 1, 0);
        due("near(0, true)", x.near(0, true), 6);
        plan(x, 0, 0, 1, 1);
        due("near(0, true)", x.near(0, true), 0);
        put(x, 0, 0, 0);
        x.weigh(0, 0, 1);
        x.weigh(0, 1, 1);
        due("several: the first", x.near(0, false), 1);
        plan(x, 0, 0, 2, 0);
        x.change(0, 0, 9);
        due("near(0, false) of none", x.near(0, false), NONE);
        due("near(0, true) of none", x.near(0, true), NONE);
        plan(x, 0, 0, 2, 0);
        due("near(1, true)", x.near(1, true), NONE);
    }

    private static void clashing() {
        // s: a < 1 and t: a > 1 clash, u: a = b and v: a # b too, w with none.
        String text = "var a in 0..2; var b in 0..2; rule soft at 1*1: a = 9; rule w at 0*1: b < 9; rule s at 0*4: a < 1;"
            + "rule u at 0*3: a = b; rule t at 0*4: a > 1; rule v at 0*2: a # b;";
        PlanningHouse x = with(text);
        promise = 41;
        due("clash(0)", x.clash(0), 1 << 3 | 1 << 5);
        due("clash(1)", x.clash(1), NONE);
        promise = 42;
        due("fewest(0)", x.fewest(0), 1 << 2 | 1 << 4);
        due("fewest(1)", x.fewest(1), NONE);
        promise = 43;
        due("relax(0)", x.relax(0), 1 << 2 | 1 << 5);
        due("relax(1)", x.relax(1), NONE);
        put(x, 1, 0);
        x.pin(0, 0, true);
        promise = 42;
        due("pinned: s alone clashes", x.fewest(0), 1 << 2);
        promise = 41;
        due("clash(0)", x.clash(0), 1 << 4);
        promise = 43;
        due("relax(0)", x.relax(0), 1 << 2 | 1 << 4 | 1 << 5);
        PlanningHouse y = with("var a in 0..2; rule r at 0*1: a > 0;");
        due("relax(0) of no clash", y.relax(0), 0);
        promise = 41;
        due("clash(0) of no clash", y.clash(0), 0);
        promise = 42;
        due("fewest(0) of no clash", y.fewest(0), 0);
        due("fewest(0) of no rule", with("var a in 0..2;").fewest(0), 0);
        promise = 43;
        y = with("var a in 0..2; rule r at 0*2: a > 1; rule s at 0*2: a < 1;");
        due("of several the least", y.relax(0), 1);
    }

    private static void why() {
        PlanningHouse x = with(TWO);
        promise = 44;
        // Without sum all plans are feasible; without q only the aim counts.
        due("without(0, 0, 0)", x.without(0, 0, 0), 0);
        due("without(0, 0, 1)", x.without(0, 0, 1), 0);
        due("without(0, 1, 2)", x.without(0, 1, 2), 0);
        x.put(0, 2, 0);
        x.pin(0, 2, true);
        due("best", x.best(0, 2), 3);
        due("without(0, 1, 2) pinned", x.without(0, 1, 2), 0);
        due("without(0, 0, 2) pinned", x.without(0, 0, 2), 3);
        x.put(0, 0, 1);
        x.pin(0, 0, true);
        due("without(0, 1, 1)", x.without(0, 1, 1), 1);
        due("without(0, 2, 0)", x.without(0, 2, 0), NO);
        due("without(0, -1, 0)", x.without(0, -1, 0), NO);
        due("without(0, 0, 3)", x.without(0, 0, 3), NO);
        due("without(0, 0, -1)", x.without(0, 0, -1), NO);
        due("without(1, 0, 0)", x.without(1, 0, 0), NO);
        x.change(0, 0, 9);
        due("none is feasible without q", x.without(0, 1, 0), NO);
        due("but without sum", x.without(0, 0, 0), 0);
        promise = 45;
        x = with(TWO);
        due("whyNot(0, 0, 1, 1)", x.whyNot(0, 0, 1, 1), 1);
        due("whyNot(0, 1, 2, 2)", x.whyNot(0, 1, 2, 2), 3);
        due("whyNot(0, 1, 2, 0)", x.whyNot(0, 1, 2, 0), 0);
        due("whyNot(0, 1, 3, 2)", x.whyNot(0, 1, 3, 2), NO);
        due("whyNot(0, 1, 2, 3)", x.whyNot(0, 1, 2, 3), NO);
        due("whyNot(0, 1, 2, -1)", x.whyNot(0, 1, 2, -1), NO);
        due("whyNot(0, 3, 0, 0)", x.whyNot(0, 3, 0, 0), NO);
        due("whyNot(1, 0, 0, 0)", x.whyNot(1, 0, 0, 0), NO);
        x.pin(0, 0, true);
        due("not with a pinned one", x.whyNot(0, 0, 1, 1), NO);
        x.pin(0, 0, false);
        promise = 46;
        due("because(0, 1, 2)", x.because(0, 1, 2), 1);
        due("because(0, 0, 1): no rule", x.because(0, 0, 1), NONE);
        due("because(0, 0, 0)", x.because(0, 0, 0), NONE);
        due("because(0, 1, 3)", x.because(0, 1, 3), NONE);
        due("because(0, 3, 0)", x.because(0, 3, 0), NONE);
        due("because(1, 0, 0)", x.because(1, 0, 0), NONE);
        x.change(0, 0, 9);
        due("because of none", x.because(0, 1, 2), NONE);
    }

    private static void futures() {
        String text = "fact f = 2; fact g = 0; var a in 0..4; rule r at 0*1: a <= f; rule s at 1*1: a = 4; aim m at 2: a * g;";
        PlanningHouse x = with(text);
        promise = 47;
        due("future(0, 0)", x.future(0, 0), NONE);
        due("future(0, 101)", x.future(0, 101), NONE);
        due("future(1, 1)", x.future(1, 1), NONE);
        promise = 50;
        due("robust(0) without futures", x.robust(0), 0);
        due("robust(1)", x.robust(1), NONE);
        promise = 51;
        due("expected(0, 0) without futures", x.expected(0, 0), NO);
        promise = 52;
        due("regret(0, 0) without futures", x.regret(0, 0), NO);
        promise = 47;
        due("future(0, 1)", x.future(0, 1), 0);
        due("future(0, 3)", x.future(0, 3), 1);
        promise = 48;
        due("told(0, 0, 0, 3)", x.told(0, 0, 0, 3), true);
        due("told(0, 1, 1, -1)", x.told(0, 1, 1, -1), true);
        due("told(0, 2, 0, 0)", x.told(0, 2, 0, 0), false);
        due("told(0, -1, 0, 0)", x.told(0, -1, 0, 0), false);
        due("told(0, 0, 2, 0)", x.told(0, 0, 2, 0), false);
        due("told(0, 0, -1, 0)", x.told(0, 0, -1, 0), false);
        due("told(0, 0, 0, 10000)", x.told(0, 0, 0, 10000), false);
        due("told(0, 0, 0, -10000)", x.told(0, 0, 0, -10000), false);
        due("told(1, 0, 0, 0)", x.told(1, 0, 0, 0), false);
        due("other questions go by the facts", x.feasibles(0), 3);
        promise = 50;
        due("robust(0)", x.robust(0), 1);
        plan(x, 0, 2);
        promise = 51;
        due("expected(0, 0)", x.expected(0, 0), 0);
        board(x, 0, 1);
        due("expected(0, 1)", x.expected(0, 1), 8);
        board(x, 2, 1);
        due("expected(0, 2)", x.expected(0, 2), -6);
        board(x, -3, 2);
        due("expected(0, 3)", x.expected(0, 3), NO);
        due("expected(0, -1)", x.expected(0, -1), NO);
        due("expected(1, 0)", x.expected(1, 0), NO);
        board(x, -3, 2);
        promise = 52;
        due("regret(0, 1)", x.regret(0, 1), 1);
        due("regret(0, 0)", x.regret(0, 0), 0);
        due("regret(0, 2)", x.regret(0, 2), 0);
        due("regret(0, 3)", x.regret(0, 3), NO);
        due("regret(0, -1)", x.regret(0, -1), NO);
        due("regret(1, 0)", x.regret(1, 0), NO);
        put(x, 4);
        due("regret may be below 0", x.regret(0, 1), -1);
        x.change(0, 0, 1);
        due("what a future does not tell is as it is now", x.regret(0, 0), 3);
        x.told(0, 0, 0, -1);
        due("none feasible in one", x.regret(0, 0), NO);
        promise = 50;
        due("robust(0) of none", x.robust(0), 0);
        plan(x, 0, 4);
        promise = 49;
        due("unfold(0)", x.unfold(0), 2);
        due("unfold(0)", x.unfold(0), 0);
        due("unfold(1)", x.unfold(1), NONE);
        promise = 47;
        for (int u = 0; u < 6; u++) {
            due("future(0, 100)", x.future(0, 100), u);
        }
        due("future(0, 1)", x.future(0, 1), FULL);
        due("future(0, 0)", x.future(0, 0), NONE);
        promise = 48;
        due("nothing is told in new futures", x.expected(0, 0), 6 * 100 * 3);
    }

    private static int z;

    private static int draw(int n) {
        z = z * 1664525 + 1013904223;
        return (z >>> 8) % n;
    }

    private static void searches() {
        promise = 53;
        PlanningHouse x = with("var a in 0..4; var b in {7}; aim m at 1: a;");
        due("search(0, 4, 1, 1, 1)", x.search(0, 4, 1, 1, 1), NONE);
        due("search(0, -1, 1, 1, 1)", x.search(0, -1, 1, 1, 1), NONE);
        due("search(0, 0, 1, 1, -1)", x.search(0, 0, 1, 1, -1), NONE);
        due("search(0, 0, 1, 1, 2001)", x.search(0, 0, 1, 1, 2001), NONE);
        int[] most = {0, 20, 100, 10000};
        for (int how = 1; how <= 3; how++) {
            due("length 0", x.search(0, how, 0, 1, 0), NONE);
            due("length too great", x.search(0, how, most[how] + 1, 1, 0), NONE);
        }
        due("search(1, 0, 1, 1, 1)", x.search(1, 0, 1, 1, 1), NONE);
        promise = 54;
        due("searched(0) before any", x.searched(0), NONE);
        promise = 53;
        for (int how = 1; how <= 3; how++) {
            due("the greatest length", x.search(0, how, most[how], 5, 0), 0);
        }
        due("any length", x.search(0, 0, LEAST, 77, 0), 0);
        promise = 54;
        due("searched(0)", x.searched(0), 1);
        due("searched(1)", x.searched(1), 77);
        due("searched(2)", x.searched(2), NONE);
        due("searched(3)", x.searched(3), NONE);
        due("searched(-1)", x.searched(-1), NONE);
        promise = 53;
        // With one free var each exchange ends its step, and each change to less is taken and kept.
        put(x, 4);
        int place = 4;
        int taken = 0;
        int trace = 1;
        int step = NONE;
        z = 123456789;
        for (int s = 0; s < 40; s++) {
            int k = draw(4);
            draw(1);
            int next = draw(k == 3 ? 1 : 4);
            next += k != 3 && next >= place ? 1 : 0;
            if (k != 3 && next <= place) {
                place = next;
                taken++;
                trace = 31 * trace + k;
                step = s;
            }
        }
        due("search(0, 0, ..)", x.search(0, 0, 0, 123456789, 40), taken);
        plan(x, 0, place, 7);
        promise = 54;
        due("searched(0)", x.searched(0), trace);
        due("searched(1)", x.searched(1), z);
        due("searched(2)", x.searched(2), step);
        due("search that is none", x.search(0, 9, 0, 1, 1), NONE);
        due("searched(1) still", x.searched(1), z);
        x.pin(0, 0, true);
        promise = 53;
        due("no var is free", x.search(0, 0, 0, 5, 40), 0);
        due("looked at first", x.search(0, 0, 0, 6, 4000), NONE);
        promise = 54;
        due("searched(0)", x.searched(0), 1);
        due("searched(1)", x.searched(1), 5);
        due("searched(2)", x.searched(2), NONE);
        x.drop(0);
        due("searched(1) of a problem that is gone", x.searched(1), 5);
    }

    private static void proofs() {
        promise = 55;
        // Feasible: 0 1 1, 0 2 0, 1 0 1, 1 1 0, with scores 0 0, 0 3, 1 0, 1 3.
        PlanningHouse x = with(TWO);
        x.solve(0);
        due("the bound is enough", check(x, "<"), 0);
        due("fault()", x.fault(), 0);
        due("a leaf for each", check(x, " a ( b(c(.,.), c(.,.), c(.,.)), % and\n b(c(.,.), c(.,.), c(.,.)))"), 0);
        due("the tape stays", x.cut(0), " a ( b(c(.,.), c(.,.), c(.,.)), % and\n b(c(.,.), c(.,.), c(.,.)))".length());
        due("a rule", check(x, "c(b(!sum,a(.,.),<),<)"), 0);
        x.put(0, 0, 1);
        x.put(0, 1, 1);
        x.put(0, 2, 0);
        // At hand is now 1 1 0, with 1 3: 0 1 1, 0 2 0 and 1 0 1 are better.
        proofFault(x, 8, "@<");
        proofFault(x, 8, "@.");
        proofFault(x, 8, "a(b(c(.,.),c(.,@.),c(.,.)),<)");
        proofFault(x, 8, "a(b(c(.,.),@!sum,c(.,.)),<)");
        proofFault(x, 8, "b(c(!sum,a(.,@.)),<,<)");
        proofFault(x, 8, "c(a(@.,<),<)");
        proofFault(x, 4, "!@q");
        proofFault(x, 4, "!@a");
        proofFault(x, 4, "!@zz");
        proofFault(x, 2, "!@5");
        proofFault(x, 2, "!@all");
        proofFault(x, 2, "!@");
        proofFault(x, 4, "@sum");
        proofFault(x, 4, "@f(<)");
        proofFault(x, 4, "a(@a(<,<),<)");
        proofFault(x, 2, "a@");
        proofFault(x, 2, "a@<");
        proofFault(x, 2, "a(@,<)");
        proofFault(x, 2, "@");
        proofFault(x, 2, " @");
        proofFault(x, 2, "@<=");
        proofFault(x, 2, "@..");
        proofFault(x, 1, "@?");
        proofFault(x, 1, "a(@abcdefghi,<)");
        proofFault(x, 1, "!@123456");
        x.solve(0);
        proofFault(x, 2, "a(<@)");
        proofFault(x, 2, "a(<,<@,<)");
        proofFault(x, 2, "a(<,<)@.");
        proofFault(x, 2, "<@<");
        proofFault(x, 2, "a(<,<@");
        x.pin(0, 0, true);
        proofFault(x, 4, "@a(<,<)");
        due("given by a pin", check(x, "b(c(.,.),c(.,.),c(.,.))"), 0);
        x.pin(0, 1, true);
        x.pin(0, 2, true);
        due("all given", check(x, "."), 0);
        x.change(0, 0, 9);
        due("a rule that is broken", check(x, "!sum"), 0);
        due("check(1)", x.check(1), FULL);
        due("check(-1)", x.check(-1), FULL);
        // The plan at hand need not be feasible: its score at level 0 is compared, too.
        PlanningHouse y = with("var a in 0..2; rule r at 0*5: a = 7;");
        y.put(0, 0, 2);
        due("not worse than the bound", check(y, "<"), 0);
        due("none feasible", check(y, "a(.,.,.)"), 0);
        y.put(0, 0, 1);
        proofFault(y, 8, "@<");
        due("none feasible", check(y, "a(!r,.,!r)"), 0);
    }

    private static void proving() {
        promise = 56;
        PlanningHouse x = with(TWO);
        type(x, "tape");
        due("prove(0) when some are better", x.prove(0), NONE);
        due("prove(1)", x.prove(1), NONE);
        due("the tape stays", x.cut(0), 4);
        x.solve(0);
        String all = "a(b(c(.,.),c(.,.),c(.,.)),b(c(.,.),c(.,.),c(.,.)))";
        due("prove(0)", x.prove(0), all.length());
        for (int i = 0; i < all.length(); i++) {
            due("tapeAt(" + i + ")", x.tapeAt(i), all.charAt(i));
        }
        due("it is right", x.check(0), 0);
        x.pin(0, 1, true);
        due("without the pinned one", x.prove(0), "a(c(.,.),c(.,.))".length());
        due("it is right", x.check(0), 0);
        x.pin(0, 0, true);
        x.pin(0, 2, true);
        due("all pinned", x.prove(0), 1);
        due("a leaf", x.tapeAt(0), '.');
        due("none feasible", with("var ab in 3..3; rule r at 0*1: ab = 4;").prove(0), "ab(.)".length());
        // 20 leaves make 1 + 2 + 20 + 19 bytes, 20 of those 3 + 20 * 42 + 19, 20 of those again 3 + 20 * 862 + 19.
        PlanningHouse y = with("var a in 0..19; var b in 0..19; var c in 0..19;");
        due("prove(0)", y.prove(0), 17262);
        due("it is right", y.check(0), 0);
        y = with("var a in 0..19; var b in 0..19; var cccccccc in 0..19; rule r at 1*1: a = 0;");
        type(y, "x");
        due("7 * 400 bytes more", y.prove(0), NONE);
        due("the tape stays", y.cut(0), 1);
        // 9 * 9 * 9 * 9 leaves: a NAME of one byte, its signs and its commas are 11 bytes.
        y = with("var a in 1..9; var b in 1..9; var c in 1..9; var dddddd in 1..9;");
        due("19226 bytes", y.prove(0), 11 + 9 * (11 + 9 * (11 + 9 * (6 + 2 + 9 + 8))));
        y = with("var a in 1..9; var b in 1..9; var c in 1..9; var ddddddd in 1..9;");
        due("19955 bytes", y.prove(0), 19226 + 729);
        y = with("var a in 1..9; var b in 1..9; var cc in 1..9; var ddddddd in 1..9;");
        due("20036 bytes", y.prove(0), NONE);
    }

    private static void boards() {
        promise = 57;
        PlanningHouse x = with("fact f = 0; var a in 0..0; aim m at 1: f;");
        x.future(0, 6);
        x.future(0, 4);
        x.told(0, 0, 0, -5);
        due("expected(0, 1)", x.expected(0, 1), -30);
        due("above()", x.above(), -3);
        promise = 58;
        due("below()", x.below(), 1);
        x.told(0, 1, 0, 1);
        due("expected(0, 1)", x.expected(0, 1), -26);
        promise = 57;
        due("above()", x.above(), -13);
        promise = 58;
        due("below()", x.below(), 5);
    }

    private static long sumOf(byte[] bytes, int from, int to) {
        long s = 0;
        for (int i = from; i < to; i++) {
            s = Long.rotateLeft(s ^ (bytes[i] & 255), 53) * 0xC2B2AE3D27D4EB4FL;
        }
        return s;
    }

    private static void stores() {
        promise = 59;
        String text = "fact f = 3; fact g = -1; var a in -2..0; var b in 0..1;";
        PlanningHouse x = with(text);
        x.change(0, 0, -300);
        x.put(0, 0, -1);
        x.weigh(0, 1, 1000);
        x.pin(0, 1, true);
        x.future(0, 1);
        int n = text.length();
        int size = 3 + n + 8 + 6 + 2 + 8;
        due("save(1)", x.save(1), NONE);
        due("save(0)", x.save(0), 0);
        byte[] row = new byte[size];
        int[] head = {211, 0, n};
        int[] tail = {255, 255, 254, 212, 255, 255, 255, 255, 255, 0, 1, 0, 3, 232, 0, 2};
        for (int i = 0; i < size - 8; i++) {
            row[i] = (byte) (i < 3 ? head[i] : i < 3 + n ? text.charAt(i - 3) : tail[i - 3 - n]);
        }
        long sum = sumOf(row, 0, size - 8);
        for (int i = 0; i < 8; i++) {
            row[size - 8 + i] = (byte) (sum >> 56 - 8 * i);
        }
        promise = 63;
        for (int i = 0; i < size; i++) {
            due("byteAt(" + i + ")", x.byteAt(i), row[i] & 255);
        }
        due("byteAt(size)", x.byteAt(size), NONE);
        due("byteAt(-1)", x.byteAt(-1), NONE);
        promise = 62;
        due("size()", x.size(), size);
        promise = 61;
        due("rows()", x.rows(), 1);
        due("save(0)", x.save(0), 1);
        due("rows()", x.rows(), 2);
        promise = 62;
        due("size()", x.size(), 2 * size);
        promise = 60;
        x.drop(0);
        due("load(2)", x.load(2), NONE);
        due("load(-1)", x.load(-1), NONE);
        due("load(1)", x.load(1), 0);
        plan(x, 0, -1, 0);
        due("fact(0, 0)", x.fact(0, 0), -300);
        due("fact(0, 1)", x.fact(0, 1), -1);
        due("no futures", x.count(0, 7), 0);
        due("pinned", x.count(0, 5), 3);
        due("a cost", x.weigh(0, 1, 7), 1000);
        due("a cost", x.weigh(0, 0, 7), 1);
        for (int p = 1; p < 4; p++) {
            due("load(0)", x.load(0), p);
        }
        due("load(0)", x.load(0), FULL);
        due("load(2) when full", x.load(2), NONE);
        x.drop(1);
        due("the least free", x.load(0), 1);
    }

    private static void fullStore() {
        promise = 59;
        PlanningHouse x = with("var a in 0..1;");
        for (int k = 0; k < 100; k++) {
            due("save(0)", x.save(0), k);
        }
        due("save(0) of 100", x.save(0), FULL);
        due("rows()", x.rows(), 100);
        // A row has its text and 3 + 3 + 2 + 8 bytes; four with 4981 and 4982 bytes of text just fill the store.
        String text = "var a in 0..1;";
        PlanningHouse y = with(text + " ".repeat(9979 - text.length()));
        due("save", y.save(0), 0);
        due("save", y.save(0), 1);
        due("size()", y.size(), 19990);
        due("save", y.save(0), FULL);
        promise = 65;
        due("take()", y.take(), 20000);
        promise = 66;
        due("bring() of too many bytes", y.bring(), FULL);
        due("the tape stays", y.cut(20000), 20000);
        due("crash(0)", y.crash(0), 1);
        due("bring() of too many bytes", y.bring(), FULL);
        promise = 59;
        y = with(text + " ".repeat(9980 - text.length()));
        due("save", y.save(0), 0);
        due("one byte too many", y.save(0), FULL);
        promise = 66;
        due("take()", x.take(), 100 * 30 + 10);
        due("bring() of too many rows", x.bring(), FULL);
        due("rows()", x.rows(), 100);
        due("the tape stays", x.cut(0), 3010);
    }

    private static void crashes() {
        promise = 64;
        PlanningHouse x = with("var a in 0..1;");
        due("crash(0)", x.crash(0), 0);
        x.save(0);
        x.save(0);
        due("crash(-1)", x.crash(-1), NONE);
        due("crash(29)", x.crash(29), 1);
        due("size()", x.size(), 30);
        due("crash(0): nothing since", x.crash(0), 1);
        x.save(0);
        due("crash(30)", x.crash(30), 2);
        due("crash(0): nothing since", x.crash(0), 2);
        due("take()", x.take(), 70);
        due("bring()", x.bring(), 2);
        due("rows()", x.rows(), 4);
        due("crash(59)", x.crash(59), 3);
        due("size()", x.size(), 90);
        x.save(0);
        x.cut(0);
        for (int i = 0; i < 10; i++) {
            x.type(0, 1);
        }
        due("bring() of no row", x.bring(), 0);
        due("is none that made a row", x.crash(0), 3);
        x.take();
        x.bring();
        due("crash(most)", x.crash(MOST), 6);
        for (int k = x.rows(); k < 100; k++) {
            x.save(0);
        }
        due("save(0) that is FULL", x.save(0), FULL);
        due("is none that made a row", x.crash(0), 99);
        due("save(0) again", x.save(0), 99);
    }

    /** One row's bytes before its sum, put into an export with right sums. */
    private static int bringRow(PlanningHouse x, int[] bytes) {
        byte[] all = new byte[2 + bytes.length + 16];
        all[1] = 1;
        for (int i = 0; i < bytes.length; i++) {
            all[2 + i] = (byte) bytes[i];
        }
        long sum = sumOf(all, 2, 2 + bytes.length);
        for (int i = 0; i < 8; i++) {
            all[2 + bytes.length + i] = (byte) (sum >> 56 - 8 * i);
        }
        sum = sumOf(all, 0, all.length - 8);
        for (int i = 0; i < 8; i++) {
            all[all.length - 8 + i] = (byte) (sum >> 56 - 8 * i);
        }
        x.cut(0);
        for (byte b : all) {
            x.type(b, 1);
        }
        return x.bring();
    }

    private static void exports() {
        promise = 65;
        PlanningHouse x = new PlanningHouse();
        type(x, "old");
        due("take() of nothing", x.take(), 10);
        for (int i = 0; i < 10; i++) {
            due("tapeAt(" + i + ")", x.tapeAt(i), 0);
        }
        promise = 66;
        due("bring()", x.bring(), 0);
        due("the tape is empty", x.cut(0), 0);
        due("bring() of nothing", x.bring(), NONE);
        String text = "fact f = 3; var a in -2..0;";
        read(x, text);
        x.save(0);
        promise = 65;
        int size = 3 + text.length() + 4 + 3 + 2 + 8;
        due("take()", x.take(), 10 + size);
        due("rows", x.tapeAt(1), 1);
        for (int i = 0; i < size; i++) {
            due("tapeAt", x.tapeAt(2 + i), x.byteAt(i));
        }
        promise = 66;
        for (int i = 0; i < size + 10; i++) {
            x.spoil(i, 1);
            due("bring() with a wrong byte " + i, x.bring(), NONE);
            x.spoil(i, 1);
        }
        x.type(0, 1);
        due("bring() of more", x.bring(), NONE);
        x.cut(size + 9);
        due("bring() of less", x.bring(), NONE);
        due("rows()", x.rows(), 1);
        x.take();
        due("bring()", x.bring(), 1);
        due("rows()", x.rows(), 2);
        int[] row = new int[size - 8];
        for (int i = 0; i < row.length; i++) {
            row[i] = x.byteAt(i);
        }
        due("the row as it is", bringRow(x, row), 1);
        int f = 3 + text.length();
        spoilRow(x, row, 0, 210);
        spoilRow(x, row, 3, 'g');
        spoilRow(x, row, 2, text.length() - 1);
        spoilRow(x, row, f, 255);
        spoilRow(x, row, f + 2, 39, 16);
        spoilRow(x, row, f, 255, 255, 216, 240);
        spoilRow(x, row, f + 4, 1);
        spoilRow(x, row, f + 4, 253);
        spoilRow(x, row, f + 5, 3, 233);
        spoilRow(x, row, f + 5, 255, 255);
        spoilRow(x, row, f + 7, 0, 2);
        spoilRow(x, row, f + 7, 128, 0);
        int[] good = row.clone();
        int[] state = {255, 255, 216, 241, 255, 3, 232, 0, 1};
        System.arraycopy(state, 0, good, f, state.length);
        due("the edges", bringRow(x, good), 1);
        due("load", x.load(x.rows() - 1), 1);
        due("a fact", x.fact(1, 0), -9999);
        due("a value", x.value(1, 0), -1);
        due("a cost", x.weigh(1, 0, 1), 1000);
        due("a pin", x.count(1, 5), 1);
    }

    private static void spoilRow(PlanningHouse x, int[] row, int at, int... bytes) {
        int[] other = row.clone();
        System.arraycopy(bytes, 0, other, at, bytes.length);
        int rows = x.rows();
        due("bring() of a row with " + Arrays.toString(bytes) + " at " + at, bringRow(x, other), NONE);
        due("rows()", x.rows(), rows);
        due("the tape stays", x.cut(0), row.length + 18);
    }

    public static void main(String[] args) {
        newObject();
        tape();
        problems();
        tokens();
        grammar();
        tooMany();
        depth();
        names();
        numbers();
        limits();
        counts();
        shownAndRanges();
        state();
        scores();
        sums();
        tests();
        left();
        best();
        bestOnes();
        having();
        fronts();
        clashing();
        why();
        futures();
        searches();
        proofs();
        proving();
        boards();
        stores();
        fullStore();
        crashes();
        exports();
        System.out.println(wrong == 0 ? "all promises hold" : wrong + " answers are not as due");
        if (wrong != 0) {
            System.exit(1);
        }
    }
}
