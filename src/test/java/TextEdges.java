import java.util.ArrayList;
import java.util.List;

/** Edges of what "Terms" says of TOKENS, TEXTS and their FAULTS. */
final class TextEdges {
    private static final String A = "var a in 0..1; ";
    private static final String[] WORDS = {"fact", "var", "in", "rule", "at", "aim", "all", "row", "lex", "ring", "auto",
        "busy", "apart", "abs", "min", "max", "pick"};
    private static final String BLANKS = "\t\n\r ";
    private static final String SIGNS = ";=#<>+-*()[]{},:&|~!.";

    /** Each form of a statement, of a test and of a factor, with a blank between all tokens. */
    private static final String EACH_FORM = "fact f = - 7 ; var a in 0 .. 1 ; var b in { 0 , - 1 } ; "
        + "rule r at 0 * 1 : a = 1 | ~ b # f & { a < 1 -> b <= 0 } -> a > 1 ; rule s at 1 * 2 : all ( a , b ) & "
        + "row ( a , b : ( 0 , - 1 ) , ( 1 , 0 ) ) & lex ( a , b : b , a ) & ring ( a , b ) & "
        + "auto ( a , b : ( 0 , - 1 , 1 ) , ( 1 , 0 , 0 ) : 0 , 1 ) & busy ( 3 : ( a , 1 , 2 ) , ( b , 1 , 2 ) ) & "
        + "apart ( ( a , b , 1 , 1 ) , ( b , a , 1 , 1 ) ) ; aim m at 1 : - a + abs ( b ) * min ( a , b ) - "
        + "max ( 1 , f ) + pick ( a : 1 , - 2 ) + [ a >= 1 ] * ( a - 1 ) ; ";

    private TextEdges() {
    }

    static void run() {
        bytesOfNames();
        blanksAndRemarks();
        longestTokens();
        words();
        signs();
        eachPlaceOfATest();
        lists();
        tuples();
        open();
        openTogether();
        closed();
        toldNames();
        wantedNames();
        numbers();
        howMany();
        rangesThatAreTooGreat();
        atTheEnd();
        whichComesFirst();
    }

    private static boolean isLetter(int c) {
        return c >= 'a' && c <= 'z' || c >= 'A' && c <= 'Z';
    }

    private static boolean isFigure(int c) {
        return c >= '0' && c <= '9';
    }

    private static void bytesOfNames() {
        Edges.terms("a NAME begins with a letter a .. z, A .. Z; fault 1 is a byte at which no token begins");
        for (int c = 0; c < 256; c++) {
            String text = "var " + (char) c + " in 0..1;";
            if (isLetter(c)) {
                Edges.right(text);
            } else if (c == '%') {
                Edges.fault(2, text.length(), text);
            } else if (BLANKS.indexOf(c) >= 0) {
                Edges.fault(2, 6, text);
            } else {
                Edges.fault(isFigure(c) || SIGNS.indexOf(c) >= 0 ? 2 : 1, 4, text);
            }
        }
        Edges.terms("in a NAME letters and figures follow");
        for (int c = 0; c < 256; c++) {
            String text = "var b" + (char) c + " in 0..1;";
            if (isLetter(c) || isFigure(c)) {
                Edges.right(text);
                Edges.due("letter(0, 1, 0, 1)", Edges.with(text).letter(0, 1, 0, 1), c);
            } else if (BLANKS.indexOf(c) >= 0) {
                Edges.right(text);
            } else if (c == '%') {
                Edges.fault(2, text.length(), text);
            } else {
                Edges.fault(SIGNS.indexOf(c) >= 0 ? 2 : 1, 5, text);
            }
        }
    }

    private static void blanksAndRemarks() {
        Edges.terms("BLANKS (9, 10, 13, 32) may stand between all tokens, and not within one");
        for (int i = 0; i < BLANKS.length(); i++) {
            Edges.right(EACH_FORM.replace(' ', BLANKS.charAt(i)));
            Edges.right(BLANKS + A + BLANKS);
        }
        Edges.fault(2, "var a in 0^. .1;");
        Edges.fault(2, "^va r a in 0..1;");
        Edges.fault(2, "var a ^b in 0..1;");
        Edges.fault(2, "var a in 1 ^2..13;");
        Edges.fault(2, A + "rule r at 0*1: a < ^= 1;");
        Edges.fault(2, A + "rule r at 0*1: a > ^= 1;");
        Edges.fault(2, A + "rule r at 0*1: a = 1 - ^> a = 1;");
        Edges.terms("a remark goes up to before the next byte 10, or the end");
        for (int c = 0; c < 256; c++) {
            String text = A + "%" + (char) c + "?";
            if (c == 10) {
                Edges.fault(1, text.length() - 1, text);
            } else {
                Edges.right(text);
            }
        }
        Edges.right(EACH_FORM.replace(" ", "%?;\n"));
        Edges.right("%\n%\n" + A + "%");
        Edges.fault(2, "^va%\nr a in 0..1;");
        Edges.fault(2, "var a in 0..1 % ;^");
    }

    private static void longestTokens() {
        Edges.terms("a NAME has at most 8 bytes, and is told at its first byte if it is too long");
        for (String name : new String[] {"abcdefgh", "ABCDEFGH", "a1234567", "zzzzzzzz"}) {
            Edges.right("var " + name + " in 0..1; rule r at 0*1: " + name + " = 1;");
            Edges.fault(1, "var ^" + name + "i in 0..1;");
            Edges.fault(1, "var ^" + name + "0 in 0..1;");
            Edges.fault(1, "var ^" + name + name + " in 0..1;");
        }
        Edges.fault(1, "^variable1 a in 0..1;");
        Edges.fault(1, A + "rule r at 1*1: ^abcdefghi = 1;");
        Edges.terms("a NUMBER has at most 4 figures");
        Edges.right("fact f = 9999; fact g = 0000; fact h = -9999;" + A);
        Edges.fault(1, "fact f = ^10000;" + A);
        Edges.fault(1, "fact f = ^00000;" + A);
        Edges.fault(1, "fact f = -^00001;" + A);
        Edges.fault(1, "fact f = ^12345678901234567890123;" + A);
        Edges.right("var a in 0000..0001;");
        Edges.right(A + "aim m at 1: 9999;");
        Edges.fault(1, A + "aim m at 1: ^10000;");
        Edges.terms("each token is as long as may be");
        Edges.fault(2, "var a in 0..1^x;");
        Edges.fault(2, "var a in 0..^.1;");
        Edges.right(A + "rule r at 0*1:a<-1;");
        Edges.right(A + "rule r at 0*1:a>-1;");
        Edges.right(A + "rule r at 0*1:a=-1;");
        Edges.fault(2, A + "rule r at 0*1:a^->1;");
        Edges.right(A + "rule r at 0*1:a<=1->a>=1;");
        Edges.fault(2, A + "rule r at 0*1:a<=^=1;");
        Edges.fault(2, A + "rule r at 0*1:a=^<1;");
        Edges.terms("a text may be as long as the tape");
        Edges.due("bytes", Edges.with(A + " ".repeat(20000 - A.length())).count(0, 8), 20000);
        String sum = A + "aim m at 1:a";
        sum += "+a".repeat((20000 - sum.length() - 1) / 2) + ";";
        PlanningHouse x = Edges.with(sum + " ".repeat(20000 - sum.length()));
        Edges.due("put(0, 0, 1)", x.put(0, 0, 1) ? 1 : 0, 1);
        Edges.due("aim(0, 0)", x.aim(0, 0), (sum.length() - A.length() - 11) / 2);
        Edges.fault(2, sum.substring(0, sum.length() - 1) + " ".repeat(20001 - sum.length()) + "^");
    }

    private static void words() {
        Edges.terms("WORDS are no NAMES");
        for (String word : WORDS) {
            Edges.fault(2, "var ^" + word + " in 0..1;");
            Edges.fault(2, "fact ^" + word + " = 1;" + A);
            Edges.fault(2, A + "rule ^" + word + " at 1*1: a = 1;");
            Edges.fault(2, A + "aim ^" + word + " at 1: a;");
            Edges.fault(2, A + "rule r at 1*1: all(^" + word + ");");
            Edges.right("var " + word + "1 in 0..1;");
            Edges.right("var x" + word + " in 0..1;");
            Edges.right("var " + word.toUpperCase() + " in 0..1;");
            Edges.right("var " + word.substring(0, 1).toUpperCase() + word.substring(1) + " in 0..1;");
            Edges.right("var " + word.substring(0, word.length() - 1) + "0 in 0..1;");
        }
    }

    private static void signs() {
        Edges.terms("fault 2 is a token that can't stand there: no sign begins a statement, and ! and . stand in no text");
        for (int i = 0; i < SIGNS.length(); i++) {
            Edges.fault(2, "^" + SIGNS.charAt(i));
            Edges.fault(2, A + "^" + SIGNS.charAt(i));
        }
        for (String sign : new String[] {"<=", ">=", "..", "->", "7", "a", "in", "all", "pick"}) {
            Edges.fault(2, "^" + sign);
            Edges.fault(2, A + "^" + sign);
        }
    }

    private static List<Integer> placesOfTokens(String text) {
        List<Integer> places = new ArrayList<>();
        for (int i = 0; i < text.length(); i++) {
            if (text.charAt(i) != ' ' && (i == 0 || text.charAt(i - 1) == ' ')) {
                places.add(i);
            }
        }
        places.add(text.length());
        return places;
    }

    private static void eachPlaceOfATest() {
        Edges.right(EACH_FORM);
        for (int place : placesOfTokens(EACH_FORM)) {
            String before = EACH_FORM.substring(0, place);
            String behind = EACH_FORM.substring(place);
            Edges.terms("fault 2 is a token that can't stand there");
            Edges.fault(2, place, before + "! " + behind);
            Edges.fault(2, place, before + ". " + behind);
            Edges.terms("fault 1 is a byte at which no token begins, met when its token is come to");
            Edges.fault(1, place, before + "? " + behind);
            Edges.fault(1, place, before + "12345 " + behind);
            Edges.fault(1, place, before + "abcdefghi " + behind);
            Edges.terms("fault 2 is the end, told at the length of the tape");
            boolean whole = before.endsWith("; ");
            if (!whole) {
                Edges.fault(2, place, before);
                Edges.fault(2, place + 9, before + "% remark\n");
            } else if (before.contains("var")) {
                Edges.right(before);
            }
        }
        Edges.fault(2, 0, "");
        Edges.fault(2, 3, " \n\t");
        Edges.fault(2, 4, "%abc");
    }

    /** A list of so many entries may stand there, and one with one more has its fault at the , that is too many. */
    private static void atMost(int most, String before, String entry, String behind) {
        Edges.right(before + entry + behind);
        Edges.right(before + Edges.repeat(entry, most, ",") + behind);
        Edges.fault(2, before + Edges.repeat(entry, most, ",") + "^," + entry + behind);
        Edges.fault(2, before + "^" + behind);
        Edges.fault(2, before + entry + ",^" + behind);
        Edges.fault(2, before + "^," + entry + behind);
        Edges.fault(2, before + entry + " ^" + entry + behind);
    }

    private static void lists() {
        String rule = A + "rule r at 1*1: ";
        String aim = A + "aim m at 1: ";
        Edges.terms("NAMES are one to twelve, too many or too few are fault 2");
        atMost(12, rule + "all(", "a", ");");
        atMost(12, rule + "ring(", "a", ");");
        atMost(12, rule + "auto(", "a", ":(0,0,0):0);");
        for (int n : new int[] {1, 2, 12}) {
            String names = Edges.repeat("a", n, ",");
            String row = "(" + Edges.repeat("1", n, ",") + ")";
            Edges.right(rule + "row(" + names + ":" + row + ");");
            Edges.right(rule + "lex(" + names + ":" + names + ");");
        }
        String twelve = Edges.repeat("a", 12, ",");
        Edges.fault(2, rule + "row(^:(1));");
        Edges.fault(2, rule + "row(" + twelve + "^,a:(1));");
        Edges.fault(2, rule + "lex(^:a);");
        Edges.fault(2, rule + "lex(" + twelve + "^,a:a);");
        Edges.terms("ROWS, ARROWS, TASKS, BOXES are one to forty");
        atMost(40, rule + "row(a:", "(1)", ");");
        atMost(40, rule + "auto(a:", "(0,0,0)", ":0);");
        atMost(40, rule + "busy(1:", "(a,1,1)", ");");
        atMost(40, rule + "apart(", "(a,a,1,1)", ");");
        Edges.terms("STATES are one to ten");
        atMost(10, rule + "auto(a:(0,0,0):", "0", ");");
        Edges.terms("SUMS and INTS are one to twenty");
        atMost(20, aim + "min(", "a", ");");
        atMost(20, aim + "max(", "a+1", ");");
        atMost(20, aim + "pick(a:", "1", ");");
        atMost(20, aim + "pick(a:", "-1", ");");
        Edges.fault(2, aim + "abs(a^,a);");
        Edges.fault(2, aim + "pick(a^,a:1);");
        Edges.terms("a range { } has one INT or more, and fault 2 never is that they are too many");
        Edges.right("var a in {0};");
        Edges.fault(2, "var a in {^};");
        Edges.fault(2, "var a in {0,^};");
        Edges.fault(2, "var a in {^,0};");
        Edges.fault(2, "var a in {0 ^1};");
        Edges.fault(2, "var a in {0^..1};");
    }

    private static void tuples() {
        String rule = A + "rule r at 1*1: ";
        Edges.terms("a ROW has as many INTs as there are NAMES");
        for (int n = 1; n <= 12; n++) {
            String before = rule + "row(" + Edges.repeat("a", n, ",") + ":(";
            String ints = Edges.repeat("-9999", n, ",");
            Edges.right(before + ints + "));");
            Edges.fault(2, before + ints + "^,0));");
            if (n > 1) {
                Edges.fault(2, before + Edges.repeat("0", n - 1, ",") + "^));");
                Edges.fault(2, before + ints + "),(0^));");
            } else {
                Edges.fault(2, before + "^));");
            }
        }
        Edges.terms("both NAMES of lex are equally many");
        for (int n = 1; n <= 12; n++) {
            String before = rule + "lex(" + Edges.repeat("a", n, ",") + ":";
            Edges.right(before + Edges.repeat("a", n, ",") + ");");
            Edges.fault(2, before + Edges.repeat("a", n, ",") + "^,a);");
            Edges.fault(2, before + (n > 1 ? Edges.repeat("a", n - 1, ",") : "") + "^);");
        }
        Edges.terms("an ARROW is ( NUMBER , INT , NUMBER )");
        Edges.right(rule + "auto(a:(0,-9999,9),(9,9999,0):0,9);");
        Edges.fault(2, rule + "auto(a:(0,0^):0);");
        Edges.fault(2, rule + "auto(a:(0,0,0^,0):0);");
        Edges.fault(2, rule + "auto(a:(^-1,0,0):0);");
        Edges.fault(2, rule + "auto(a:(0,0,^-1):0);");
        Edges.fault(2, rule + "auto(a:(0,0,0):^-1);");
        Edges.fault(2, rule + "auto(a:(0,^a,0):0);");
        Edges.terms("a TASK is ( NAME , NUMBER , NUMBER )");
        Edges.right(rule + "busy(0:(a,0,0),(a,9999,9999));");
        Edges.right(rule + "busy(9999:(a,0,0));");
        Edges.fault(2, rule + "busy(^-1:(a,0,0));");
        Edges.fault(2, rule + "busy(1:(a,0^));");
        Edges.fault(2, rule + "busy(1:(a,0,0^,0));");
        Edges.fault(2, rule + "busy(1:(a,^-1,0));");
        Edges.fault(2, rule + "busy(1:(a,0,^-1));");
        Edges.fault(2, rule + "busy(1:(^0,0,0));");
        Edges.terms("a BOX is ( NAME , NAME , NUMBER , NUMBER )");
        Edges.right(rule + "apart((a,a,0,9999),(a,a,9999,0));");
        Edges.fault(2, rule + "apart((a,a,0^));");
        Edges.fault(2, rule + "apart((a,a,0,0^,0));");
        Edges.fault(2, rule + "apart((a,^0,0,0));");
        Edges.fault(2, rule + "apart((a,a,^-1,0));");
        Edges.fault(2, rule + "apart((a,a,0,^-1));");
    }

    // What opens one more: what is before its sign, what begins with its sign, and what closes it.
    private static final String[][] OPEN_SUMS = {{"", "(", ")"}, {"abs", "(", ")"}, {"min", "(", ",1)"},
        {"max", "(", ",1)"}, {"min", "(1,", ")"}, {"max", "(1,1,", ",1)"}, {"pick", "(", ":1)"}, {"", "[", "=1]"},
        {"", "[1=1&1=", "]"}, {"", "-", ""}};
    private static final String[][] OPEN_TESTS = {{"1=1", "->", ""}, {"", "{", "}"}, {"", "~", ""}};

    private static String opened(String[] sort, int n) {
        return (sort[0] + sort[1]).repeat(n);
    }

    private static String closedAgain(String[] sort, int n) {
        return sort[2].repeat(n);
    }

    private static void open() {
        Edges.terms("fault 7 is what would be the 13th that is open");
        String aim = A + "aim m at 1: ";
        String rule = A + "rule r at 1*1: ";
        for (String[] sort : OPEN_SUMS) {
            Edges.right(aim + opened(sort, 12) + "a" + closedAgain(sort, 12) + ";");
            String thirteenth = opened(sort, 12) + sort[0] + "^" + sort[1];
            Edges.fault(7, aim + thirteenth + "a" + closedAgain(sort, 13) + ";");
            Edges.fault(7, aim + thirteenth);
            Edges.fault(7, aim + thirteenth + "?");
            Edges.right(rule + opened(sort, 12) + "a" + closedAgain(sort, 12) + "=1;");
            Edges.fault(7, rule + "1=" + thirteenth + "a;");
        }
        for (String[] sort : OPEN_TESTS) {
            Edges.right(rule + opened(sort, 12) + "a=1" + closedAgain(sort, 12) + ";");
            String thirteenth = opened(sort, 12) + sort[0] + "^" + sort[1];
            Edges.fault(7, rule + thirteenth + "a=1" + closedAgain(sort, 13) + ";");
            Edges.fault(7, rule + thirteenth);
            Edges.fault(7, rule + thirteenth + "zz = 1;");
        }
        Edges.terms("a token that can't stand there is fault 2 also when 12 are open");
        Edges.fault(2, aim + opened(OPEN_SUMS[0], 12) + "abs ^a;");
        Edges.fault(2, aim + opened(OPEN_SUMS[0], 12) + "abs ^[a=1];");
        Edges.fault(2, aim + opened(OPEN_SUMS[0], 12) + "^{a=1};");
        Edges.fault(2, aim + opened(OPEN_SUMS[0], 12) + "^~a;");
        Edges.fault(2, aim + opened(OPEN_SUMS[0], 12) + "a^->a;");
        Edges.fault(2, rule + opened(OPEN_TESTS[1], 12) + "a=1^(a);");
    }

    private static void openTogether() {
        Edges.terms("fault 7: all that is open counts together");
        String aim = A + "aim m at 1: ";
        String rule = A + "rule r at 1*1: ";
        for (String[] outer : OPEN_SUMS) {
            for (String[] inner : OPEN_SUMS) {
                String text = aim + opened(outer, 5) + opened(inner, 7);
                Edges.right(text + "a" + closedAgain(inner, 7) + closedAgain(outer, 5) + ";");
                Edges.fault(7, text + inner[0] + "^" + inner[1] + "a");
                Edges.fault(7, text + outer[0] + "^" + outer[1] + "a");
            }
        }
        for (String[] outer : OPEN_TESTS) {
            for (String[] inner : OPEN_SUMS) {
                String text = rule + opened(outer, 11) + opened(inner, 1);
                Edges.right(text + "a" + closedAgain(inner, 1) + "=1" + closedAgain(outer, 11) + ";");
                Edges.fault(7, text + inner[0] + "^" + inner[1] + "a");
            }
        }
        Edges.right(rule + "1=1->".repeat(4) + "{".repeat(4) + "~".repeat(4) + "a=1" + "}".repeat(4) + ";");
        Edges.fault(7, rule + "1=1->".repeat(4) + "{".repeat(4) + "~".repeat(4) + "^~a=1");
        Edges.fault(7, rule + "1=1->".repeat(4) + "{".repeat(8) + "a=1^->a=1");
        Edges.right(rule + "1=1->".repeat(4) + "{".repeat(7) + "a=1->a=1" + "}".repeat(7) + ";");
        Edges.right(aim + "[~{-(a)=1}]+[~{-(a)=1}];");
        Edges.right(aim + "[~{-(abs([~{-(min(1,a))=1}]))=1}];");
        Edges.fault(7, aim + "[~{-(abs([~{-(min(1,^-(a");
    }

    private static void closed() {
        Edges.terms("what is closed is not open any more: a - behind its FACTOR, a ~ behind its UNIT, a -> behind its TEST");
        String aim = A + "aim m at 1: ";
        String rule = A + "rule r at 1*1: ";
        for (String joint : new String[] {"+", "-", "*"}) {
            for (String[] sort : OPEN_SUMS) {
                String one = opened(sort, 12) + "a" + closedAgain(sort, 12);
                Edges.right(aim + one + joint + one + joint + one + ";");
            }
        }
        for (String joint : new String[] {"&", "|"}) {
            Edges.right(rule + Edges.repeat("~".repeat(12) + "a=1", 3, joint) + ";");
            Edges.right(rule + Edges.repeat("{".repeat(12) + "a=1" + "}".repeat(12), 3, joint) + ";");
            Edges.right(rule + Edges.repeat("{" + "a=1->".repeat(11) + "a=1}", 3, joint) + ";");
            Edges.fault(7, rule + "{" + "a=1->".repeat(11) + "a=1} " + joint + "{" + "a=1->".repeat(11) + "a=1^->a=1};");
        }
        Edges.right(rule + "~".repeat(12) + "a=1->" + "~".repeat(11) + "a=1;");
        Edges.fault(7, rule + "~".repeat(12) + "a=1->" + "~".repeat(11) + "^~a=1;");
        Edges.right(rule + "-".repeat(12) + "a=" + "-".repeat(12) + "a->" + "-".repeat(11) + "a=1;");
        Edges.fault(7, rule + "-".repeat(12) + "a=1->" + "-".repeat(11) + "^-a=1;");
        Edges.terms("not counted are the ( of lists, the - of INTs and between TERMs");
        Edges.right(rule + "{".repeat(12) + "row(a:(-1),(-2))&auto(a:(0,-1,0):0)&busy(1:(a,1,1))" + "}".repeat(12) + ";");
        Edges.right(aim + "pick(".repeat(12) + "a-a-1" + ":-1,-2)".repeat(12) + ";");
        Edges.right(aim + "-".repeat(12) + "a-a-a;");
    }

    private static void toldNames() {
        Edges.terms("fault 3 is a NAME behind fact, var, rule or aim that is told already, all of them together");
        String all = "fact f = 1; var a in 0..1; rule r at 0*1: a = 1; aim m at 1: a; ";
        for (String name : new String[] {"f", "a", "r", "m"}) {
            Edges.fault(3, all + "fact ^" + name + " = 1;");
            Edges.fault(3, all + "var ^" + name + " in 0..1;");
            Edges.fault(3, all + "rule ^" + name + " at 1*1: a = 1;");
            Edges.fault(3, all + "aim ^" + name + " at 1: a;");
            String upper = name.toUpperCase();
            Edges.right(all + "fact " + upper + " = 1;");
            Edges.right(all + "var " + upper + " in 0..1;");
            Edges.right(all + "rule " + name + name + " at 1*1: a = 1;");
            Edges.right(all + "aim " + name + "0 at 1: a;");
        }
        Edges.right("var abcdefgh in 0..1; var abcdefgi in 0..1; var bbcdefgh in 0..1; var abcdefg in 0..1;");
        Edges.fault(3, "var abcdefgh in 0..1; var ^abcdefgh in 0..1;");
        Edges.terms("a fault 3 is told before what follows it");
        Edges.fault(3, all + "fact ^f");
        Edges.fault(3, all + "var ^a ?");
    }

    private static void wantedNames() {
        Edges.terms("fault 4 is another NAME that is not told before, or not as is wanted");
        String all = "fact f = 1; var a in 0..1; rule r at 0*1: a = 1; aim m at 1: a; ";
        Edges.right(all + "aim n at 1: a + f;");
        for (String name : new String[] {"r", "m", "zz", "n", "A", "F", "ff"}) {
            Edges.fault(4, all + "aim n at 1: ^" + name + ";");
            Edges.fault(4, all + "rule n at 1*1: ^" + name + " = 1;");
            Edges.fault(4, all + "rule n at 1*1: 1 = ^" + name + ";");
            Edges.fault(4, all + "aim n at 1: [ ^" + name);
            Edges.fault(4, all + "aim n at 1: pick(^" + name);
            Edges.fault(4, all + "aim n at 1: a + - ^" + name);
        }
        for (String name : new String[] {"f", "r", "m", "zz", "n"}) {
            String rule = all + "rule n at 1*1: ";
            Edges.fault(4, rule + "all(^" + name + ");");
            Edges.fault(4, rule + "all(a,a,^" + name + ");");
            Edges.fault(4, rule + "row(^" + name + ":(1));");
            Edges.fault(4, rule + "lex(^" + name + ":a);");
            Edges.fault(4, rule + "lex(a:^" + name + ");");
            Edges.fault(4, rule + "ring(^" + name + ");");
            Edges.fault(4, rule + "auto(^" + name + ":(1,1,1):1);");
            Edges.fault(4, rule + "busy(1:(^" + name + ",1,1));");
            Edges.fault(4, rule + "apart((^" + name + ",a,1,1));");
            Edges.fault(4, rule + "apart((a,^" + name + ",1,1));");
        }
        Edges.terms("a NAME is told behind its ; and not within its own statement");
        Edges.fault(4, "var a in 0..1; rule b at 1*1: ^b = 1; var b in 0..1;");
        Edges.fault(4, "var a in 0..1; aim b at 1: ^b;");
        Edges.fault(4, "aim b at 1: ^a; var a in 0..1;");
        Edges.right("var a in 0..1; aim b at 1: a; rule c at 1*1: a = 1;");
    }

    private static void numbers() {
        Edges.terms("fault 5: values of ranges are 0 .. 99 before the sign");
        Edges.right("var a in 99..99; var b in -99..-99; var c in {99, -99, 0}; var d in -0..0;");
        Edges.fault(5, "var a in ^100..100;");
        Edges.fault(5, "var a in -^100..0;");
        Edges.fault(5, "var a in 99..^100;");
        Edges.fault(5, "var a in {^100};");
        Edges.fault(5, "var a in {-^100};");
        Edges.fault(5, "var a in {1, 9, ^9999};");
        Edges.terms("fault 5: the second one is not below the first one, with signs, at its NUMBER");
        Edges.right("var a in 5..5; var b in -5..-5; var c in -1..0; var d in -2..-1;");
        Edges.fault(5, "var a in 5..^4;");
        Edges.fault(5, "var a in -5..-^6;");
        Edges.fault(5, "var a in 0..-^1;");
        Edges.fault(5, "var a in 5..-^5;");
        Edges.fault(5, "var a in 1..^0;");
        Edges.terms("fault 5: no value twice in { }");
        Edges.right("var a in {1, -1, 0};");
        Edges.fault(5, "var a in {1, ^1};");
        Edges.fault(5, "var a in {1, 2, 3, ^01};");
        Edges.fault(5, "var a in {-1, 1, -^1};");
        Edges.fault(5, "var a in {0, -^0};");
        Edges.terms("fault 5: levels are 0 .. 2, of aims 1 .. 2");
        for (int level = 0; level <= 2; level++) {
            Edges.right(A + "rule r at " + level + "*1: a = 1;");
            Edges.right(A + "rule r at 000" + level + "*1: a = 1;");
        }
        Edges.fault(5, A + "rule r at ^3*1: a = 1;");
        Edges.fault(5, A + "rule r at ^9999*1: a = 1;");
        Edges.right(A + "aim m at 1: a; aim n at 2: a;");
        Edges.fault(5, A + "aim m at ^0: a;");
        Edges.fault(5, A + "aim m at ^3: a;");
        Edges.terms("fault 5: weights are 1 .. 1000");
        Edges.right(A + "rule r at 1*1: a = 1; rule s at 1*1000: a = 1;");
        Edges.fault(5, A + "rule r at 1*^0: a = 1;");
        Edges.fault(5, A + "rule r at 1*^1001: a = 1;");
        Edges.fault(5, A + "rule r at 0*^0000: a = 1;");
        Edges.terms("fault 5: states are 0 .. 9");
        Edges.right(A + "rule r at 1*1: auto(a:(0,10,9),(9,-10,0):0,9,0009);");
        Edges.fault(5, A + "rule r at 1*1: auto(a:(^10,0,0):0);");
        Edges.fault(5, A + "rule r at 1*1: auto(a:(0,0,^10):0);");
        Edges.fault(5, A + "rule r at 1*1: auto(a:(0,0,0):^10);");
        Edges.fault(5, A + "rule r at 1*1: auto(a:(0,0,0):0,^10);");
        Edges.terms("facts and all other NUMBERS and INTs are as they are");
        Edges.right("fact f = 9999; fact g = -9999; fact h = 0; fact i = -0;" + A);
        Edges.right(A + "rule r at 1*1: row(a:(9999),(-9999)) & busy(9999:(a,9999,9999)) & apart((a,a,9999,9999)) "
            + "& auto(a:(1,9999,1),(1,-9999,1):1) & 9999 = 0; aim m at 1: pick(9999:9999,-9999);");
        Edges.due("fact(0, 0)", Edges.with("fact f = -9999;" + A).fact(0, 0), -9999);
        Edges.due("fact(0, 0)", Edges.with("fact f = 9999;" + A).fact(0, 0), 9999);
        Edges.due("fact(0, 0)", Edges.with("fact f = -0;" + A).fact(0, 0), 0);
    }

    private static String several(String before, String behind, int n) {
        StringBuilder s = new StringBuilder();
        for (int i = 0; i < n; i++) {
            s.append(before).append('n').append(before.charAt(0)).append(i).append(behind);
        }
        return s.toString();
    }

    private static void howMany() {
        String facts = several("fact ", " = 1;", 16);
        Edges.terms("fault 6 is the 17th fact, at its NAME");
        Edges.right(A + facts);
        Edges.fault(6, A + facts + "fact ^x = 1;");
        Edges.fault(6, A + facts + "fact ^x");
        Edges.terms("fault 6 is the 13th var, at its NAME");
        String vars = several("var ", " in 0..1;", 12);
        Edges.right(vars);
        Edges.fault(6, vars + "var ^x in 0..0;");
        Edges.fault(6, vars + "var ^x ;");
        Edges.terms("fault 6 is the 25th rule, at its NAME");
        String rules = several("rule ", " at 1*1: a=1;", 24);
        Edges.right(A + rules);
        Edges.fault(6, A + rules + "rule ^x at 1*1: a=1;");
        Edges.fault(6, A + rules + "rule ^x at 0*1: a=1;");
        Edges.terms("fault 6 is the 7th aim, at its NAME");
        String aims = several("aim ", " at 2: a;", 6);
        Edges.right(A + aims);
        Edges.fault(6, A + aims + "aim ^x at 1: a;");
        Edges.terms("fault 6 is, at the 0 of a level, that it is the 13th one");
        String hard = several("rule ", " at 0*1: a=1;", 12);
        Edges.right(A + hard);
        Edges.right(A + hard + "rule x at 1*1: a=1; rule y at 2*1: a=1;");
        Edges.fault(6, A + hard + "rule x at ^0*1: a=1;");
        Edges.fault(6, A + hard + "rule x at ^0000*1: a=1;");
        Edges.fault(6, A + hard + "rule x at 1*1: a=1; rule y at ^0");
        Edges.fault(5, A + hard + "rule x at ^3*1: a=1;");
        Edges.fault(5, A + hard + "aim x at ^0: a;");
        Edges.fault(5, A + hard + "rule x at 1*^0: a=1;");
        Edges.terms("all that may be told may be told together");
        String all = several("var ", " in 0..1;", 12) + facts + several("rule ", " at 0*1: 1=1;", 12)
            + several("rule s", " at 2*1: 1=1;", 12) + several("aim ", " at 1: 1;", 6);
        PlanningHouse x = Edges.with(all);
        int[] due = {16, 12, 24, 6, 4096, 4096, 12, 0, all.length()};
        for (int what = 0; what < due.length; what++) {
            Edges.due(x, "count(0, " + what + ")", due[what]);
        }
        Edges.fault(6, all + "fact ^x = 1;");
        Edges.fault(6, all + "aim ^x at 1: 1;");
        Edges.fault(2, all + "^x");
    }

    private static void rangesThatAreTooGreat() {
        Edges.terms("fault 6, met at the ; of a var's statement, is that its range has more than 20 values, at its NAME");
        StringBuilder list = new StringBuilder("0");
        for (int i = 1; i < 20; i++) {
            list.append(',').append(i % 2 == 0 ? i : -i);
        }
        Edges.right("var a in 0..19; var b in {" + list + "};");
        Edges.right("var a in -99..-80; var b in 80..99; var c in -10..9;");
        Edges.fault(6, "var ^a in 0..20;");
        Edges.fault(6, "var ^a in -99..99;");
        Edges.fault(6, "var ^a in -10..10;");
        Edges.fault(6, "var ^a in {" + list + ",99};");
        Edges.fault(6, "var ^a in {" + list + ",99,98,97};");
        StringBuilder every = new StringBuilder("0");
        for (int i = 1; i <= 99; i++) {
            every.append(',').append(i).append(",-").append(i);
        }
        Edges.fault(6, "var ^a in {" + every + "};");
        Edges.fault(5, "var a in {" + every + ",^5};");
        Edges.fault(5, "var a in {" + every + ",^100};");
        Edges.fault(2, "var a in {" + every + "^;");
        Edges.terms("what is wrong before the ; comes first");
        Edges.fault(2, "var a in 0..20^");
        Edges.fault(2, "var a in 0..20 ^var b in 0..1;");
        Edges.fault(1, "var a in 0..20^?;");
        Edges.fault(5, "var a in {" + list + ",99,^0};");
        Edges.fault(5, "var a in {" + list + ",^100};");
        Edges.fault(2, "var a in {" + list + ",99^;");
        Edges.fault(6, "var ^a in 0..20;?");
        Edges.fault(6, "var ^a in 0..20; var a in 0..1;");
        Edges.terms("fault 6, met at the ; of a var's statement, is that all ranges so far make more than 20000 plans");
        String full = "var a in 1..20; var b in 1..20; var c in 1..10; var d in 1..5; ";
        Edges.right(full);
        Edges.due("plans", Edges.with(full).count(0, 4), 20000);
        Edges.right(full + "var e in 7..7; var f in {1};");
        Edges.fault(6, full + "var ^e in 1..2;");
        Edges.fault(6, full + "var ^e in 1..20;");
        Edges.fault(6, full + "var ^e in 1..21;");
        Edges.fault(2, full + "var e in 1..2^");
        Edges.fault(6, "var a in 1..13; var b in 1..19; var c in 1..9; var ^d in 1..9;");
        Edges.right("var a in 1..13; var b in 1..19; var c in 1..9; var d in 1..8;");
        Edges.fault(6, several("var ", " in 0..2;", 9) + "var ^x in 0..1; var");
        Edges.right(several("var ", " in 0..2;", 9) + "var x in 0..0;");
    }

    private static void atTheEnd() {
        Edges.terms("fault 6, at the length of the tape, is that there is no var");
        Edges.fault(6, "fact f = 1;^");
        Edges.fault(6, "fact f = 1; rule r at 0*1: f = 1; aim m at 1: f; \n^");
        Edges.fault(6, "fact f = 1; % var a in 0..1;^");
        Edges.right("fact f = 1; rule r at 0*1: f = 1; aim m at 1: f; var a in 0..0;");
        Edges.terms("fault 6, at the length of the tape, is that all plans times how many TOKENS are above 20000000");
        // 4 vars have 7 tokens each, an aim of a NUMBER 7: with 482 times + 1 and a - these are 28 + 8 + 964 = 1000.
        String full = "var a in 1..20; var b in 1..20; var c in 1..10; var d in 1..5; ";
        Edges.right(full + "aim m at 1: -1" + "+1".repeat(482) + ";");
        Edges.right(full + "aim m at 1: -1" + "+1".repeat(482) + "; % and a remark with many tokens ; ; ; ; \n");
        Edges.fault(6, full + "aim m at 1: - -1" + "+1".repeat(482) + ";^");
        Edges.fault(6, full + "aim m at 1: - -1" + "+1".repeat(482) + "; % and more\n ^");
        Edges.fault(2, full + "aim m at 1: - -1" + "+1".repeat(482) + ";^;");
        // 19683 plans: 1016 tokens may be; 9 vars have 63 of them.
        String nine = several("var ", " in 0..2;", 9);
        Edges.right(nine + "aim m at 1: 1" + "+1".repeat(473) + ";");
        Edges.fault(6, nine + "aim m at 1: -1" + "+1".repeat(473) + ";^");
        // 2048 plans: 9765 tokens may be, for 2048 * 9765 = 19998720; 11 vars have 77.
        String eleven = several("var ", " in 0..1;", 11);
        Edges.right(eleven + "aim m at 1: -1" + "+1".repeat(4840) + ";");
        Edges.fault(6, eleven + "aim m at 1: - -1" + "+1".repeat(4840) + ";^");
    }

    private static void whichComesFirst() {
        Edges.terms("the first fault from the left is told");
        Edges.fault(4, A + "aim m at 1: ^zz + ?;");
        Edges.fault(1, A + "aim m at 1: ^? + zz;");
        Edges.fault(5, A + "rule r at ^7*0: zz = 1;");
        Edges.fault(2, "^x var");
        Edges.terms("at one token by code, 3 first");
        Edges.fault(3, A + several("fact ", " = 1;", 16) + "fact ^nf0 = 1;");
        Edges.fault(3, several("var ", " in 0..1;", 12) + "var ^nv11 in 0..1;");
        Edges.fault(3, A + several("rule ", " at 1*1: a=1;", 24) + "rule ^a at 1*1: a=1;");
        Edges.fault(3, A + several("aim ", " at 1: a;", 6) + "aim ^na5 at 1: a;");
        Edges.terms("a NAME that can't be read, or is none, comes before what it would be");
        Edges.fault(1, A + several("fact ", " = 1;", 16) + "fact ^abcdefghi = 1;");
        Edges.fault(2, A + several("fact ", " = 1;", 16) + "fact ^1 = 1;");
        Edges.fault(2, A + several("fact ", " = 1;", 16) + "fact ^");
    }
}
