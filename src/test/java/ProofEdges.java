/** Edges of PROOFS in "Terms", and of promises 55 and 56. */
final class ProofEdges {
    // Feasible are 0 0 with the scores 3 0, 1 1 with 0 1, and 1 2 with 0 2; h breaks 0 1 and 1 0, k breaks 0 2.
    private static final String TEXT = "fact f = 1; var a in 0..1; var b in 0..2; rule h at 0*1: a + b # f; "
        + "rule k at 0*2: b <= 1 | a = 1; rule s at 1*3: a = 1; aim m at 2: b;";
    private static final String PROOF = "a ( b ( . , ! h , ! k ) , b ( ! h , . , < ) ) ";

    private ProofEdges() {
    }

    static void run() {
        eachPlace();
        names();
        trees();
        leaves();
        rules();
        bounds();
        howManyTrees();
        twelve();
        checkKeeps();
        proves();
        lengthOfProofs();
    }

    private static PlanningHouse house(int a, int b) {
        PlanningHouse x = Edges.with(TEXT);
        Edges.put(x, a, b);
        return x;
    }

    private static void right(PlanningHouse x, String proof) {
        x.cut(0);
        Edges.type(x, proof);
        Edges.due("check() of " + proof, x.check(0), 0);
        Edges.due("fault() of " + proof, x.fault(), 0);
        Edges.due("the tape behind " + proof, x.cut(0), proof.length());
    }

    private static void fault(PlanningHouse x, int code, String marked) {
        int place = marked.indexOf('^');
        fault(x, code, place, marked.substring(0, place) + marked.substring(place + 1));
    }

    private static void fault(PlanningHouse x, int code, int place, String proof) {
        x.cut(0);
        Edges.type(x, proof);
        Edges.due("check() of " + proof, x.check(0), -1 - place);
        Edges.due("fault() of " + proof, x.fault(), code);
        Edges.due("the tape behind " + proof, x.cut(0), proof.length());
    }

    private static void eachPlace() {
        PlanningHouse x = house(1, 1);
        right(x, PROOF);
        right(x, PROOF.replace(" ", ""));
        right(x, "%?\n\t" + PROOF.replace(" ", "%\r;\n") + "%");
        for (int i = 0; i <= PROOF.length(); i++) {
            boolean begins = i == PROOF.length() || PROOF.charAt(i) != ' ' && (i == 0 || PROOF.charAt(i - 1) == ' ');
            if (!begins) {
                continue;
            }
            String before = PROOF.substring(0, i);
            String behind = PROOF.substring(i);
            Edges.terms("the fault of a proof is the first token that can't stand there: 2 as for texts");
            for (String token : new String[] {";", "7", "all", "..", "<=", "->", "-", ":", "[", "{", "~", "="}) {
                fault(x, 2, i, before + token + " " + behind);
            }
            Edges.terms("fault() tells 1 as for texts");
            for (String token : new String[] {"?", "12345", "abcdefghi", "'", "\u00ff"}) {
                fault(x, 1, i, before + token + " " + behind);
            }
            if (i < PROOF.length()) {
                Edges.terms("or the length of the tape");
                fault(x, 2, i, before);
                fault(x, 2, i + 3, before + "%! ");
            }
        }
        Edges.terms("nothing stands behind a proof");
        for (String token : new String[] {".", "<", "!", "a", "zz", ")", ",", "("}) {
            fault(x, 2, PROOF.length(), PROOF + token);
        }
        Edges.terms("an empty tape is no proof");
        fault(x, 2, "^");
        fault(x, 2, " \n^");
        fault(x, 2, "%.^");
    }

    private static void names() {
        PlanningHouse x = house(1, 1);
        Edges.terms("4 is a NAME behind ! that is no hard rule's");
        for (String name : new String[] {"s", "a", "f", "m", "zz", "H"}) {
            fault(x, 4, "!^" + name);
            fault(x, 4, "a(b(.,!^" + name + " ?");
        }
        Edges.terms("4 is a NAME with which a TREE begins that is no var's");
        for (String name : new String[] {"h", "k", "s", "f", "m", "zz", "A"}) {
            fault(x, 4, "^" + name);
            fault(x, 4, "a(^" + name + "(.,.),.)");
            fault(x, 4, "a(b(.,!h,!k),^" + name + "?");
        }
        Edges.terms("4 is a NAME with which a TREE begins of a var that is given");
        fault(x, 4, "a(^a(.,.),.)");
        fault(x, 4, "a(b(.,^b");
        fault(x, 4, "a(b(.,^a");
        fault(x, 4, "b(a(.,!h),a(^b");
        x.pin(0, 0, true);
        fault(x, 4, "^a(.,.)");
        fault(x, 4, "b(!h,^a");
        right(x, "b(!h,.,.)");
        x.pin(0, 1, true);
        fault(x, 4, "^b(.,.,.)");
        right(x, ".");
        Edges.terms("a WORD can't stand where a NAME does");
        fault(x, 2, "!^all");
        fault(x, 2, "^all");
        fault(x, 2, "!^1");
        fault(x, 2, "!^.");
        fault(x, 2, "!^!h");
        fault(x, 2, "!^");
    }

    private static void trees() {
        PlanningHouse x = house(1, 1);
        Edges.terms("a NAME with which a TREE begins has ( behind it, and , between TREES");
        fault(x, 2, "a^");
        fault(x, 2, "a^.");
        fault(x, 2, "a ^a");
        fault(x, 2, "a(^)");
        fault(x, 2, "a(^,");
        fault(x, 2, "a(^(");
        fault(x, 2, "b(a(.,!h)^;");
        fault(x, 2, "b(a(.,!h),^,");
        Edges.terms("of one token: that it can't stand there comes before that its TREE is not right");
        fault(x, 2, PROOF + "^.");
        fault(x, 2, "a(b(.,!h,!k)^.");
        Edges.terms("the first token is told: a ! before its NAME and all that follows");
        fault(x, 8, "^!h");
        fault(x, 8, "^!h?");
        fault(x, 8, "^!h h");
        fault(x, 8, "a(^!h,?");
        fault(x, 4, "!^zz?");
        fault(x, 8, "^. ?");
        fault(x, 8, "^< ?");
    }

    private static void leaves() {
        Edges.terms(". is right if the values of all vars are given, and that plan is not feasible, or not better");
        PlanningHouse x = house(1, 1);
        fault(x, 8, "^.");
        fault(x, 8, "a(^.,.)");
        fault(x, 8, "a(b(.,.,.),^.)");
        right(x, "a(b(.,.,.),b(.,.,.))");
        right(x, "b(a(.,.),a(.,.),a(.,.))");
        x = house(1, 2);
        fault(x, 8, "a(b(.,.,.),b(.,^.,.))");
        fault(x, 8, "b(a(.,.),a(.,^.),a(.,.))");
        x = house(0, 0);
        fault(x, 8, "a(b(.,.,.),b(.,^.,.))");
        fault(x, 8, "a(b(.,.,.),b(!h,^!h,.))");
        x = house(0, 1);
        Edges.terms(". goes by the plan at hand, that need not be feasible: each feasible one is better than that");
        fault(x, 8, "a(b(^.,.,.),b(.,.,.))");
        fault(x, 8, "b(a(^.,.),");
        x.change(0, 0, 9);
        x.put(0, 0, 0);
        x.put(0, 1, 2);
        fault(x, 8, "a(b(^.,");
        Edges.terms(". goes by the facts as they are, not by futures");
        x = house(1, 1);
        x.future(0, 1);
        x.told(0, 0, 0, 2);
        right(x, "a(b(.,.,.),b(.,.,.))");
        x.change(0, 0, 2);
        fault(x, 8, "a(b(^.,.,.),b(.,.,.))");
    }

    private static void rules() {
        Edges.terms("! NAME is right if each plan with the values that are given breaks that rule");
        PlanningHouse x = house(1, 1);
        fault(x, 8, "^!h");
        fault(x, 8, "a(^!h,.)");
        fault(x, 8, "a(b(^!h,.,.),.)");
        fault(x, 8, "a(b(.,!h,^!h),.)");
        fault(x, 8, "a(b(.,!h,!k),^!k)");
        x.pin(0, 0, true);
        right(x, "b(!h,.,.)");
        fault(x, 8, "b(!h,^!h,.)");
        Edges.put(x, 0, 0);
        right(x, "b(.,!h,!k)");
        fault(x, 8, "b(^!h,!h,!k)");
        x = Edges.with("var a in 0..2; var b in 0..2; rule r at 0*1: a > 5; rule q at 0*1: a + b > 1;");
        right(x, "!r");
        right(x, "b(!r,!r,!r)");
        fault(x, 8, "^!q");
        right(x, "a(b(!q,!q,!r),!r,!r)");
        fault(x, 8, "a(b(!q,!q,^!q),!r,!r)");
    }

    private static void bounds() {
        Edges.terms("< is right if the plan at hand is not worse than the BOUND");
        // At hand is 0 0 1. The bound is 0 0 0 of all plans, with a = 1 or with b = 0; 0 3 0 with a = 0; 0 0 1 with b = 1.
        PlanningHouse x = house(1, 1);
        fault(x, 8, "^<");
        fault(x, 8, "a(<,^<)");
        right(x, "a(<,b(<,<,<))");
        fault(x, 8, "b(^<,<,<)");
        right(x, "b(a(<,<),<,<)");
        // At hand is 0 0 2.
        x = house(1, 2);
        fault(x, 8, "a(<,b(<,^<,<))");
        fault(x, 8, "b(a(<,<),^<,<)");
        fault(x, 8, "b(a(<,<),a(<,^<),<)");
        // At hand is 1 3 1: 0 3 0 is better, 1 3 1 is the same, 2 3 2 is worse, 1 0 0 is better.
        x = house(0, 1);
        fault(x, 8, "a(b(^<,<,<),<)");
        fault(x, 8, "b(a(^<,<),a(<,<),a(<,<))");
        x.pin(0, 0, true);
        fault(x, 8, "b(^<,<,<)");
        x.pin(0, 1, true);
        right(x, "<");
        right(x, "!h");
        Edges.terms("the BOUND takes the least of each rule and of each aim for itself, times its weight");
        // The bound of all is 12 -1 0, with a = 0 it is 12 1 0, with a = 1 it is 12 0 0, with b = 0 it is 15 0 0.
        x = Edges.with("var a in 0..1; var b in 0..1; rule r at 1*2: a = 1; rule q at 1*1: a = 0; rule h at 0*3: b = 5; "
            + "aim m at 1: - b; aim n at 2: b;");
        Edges.put(x, 1, 1);
        Edges.due(x, "score(0, 0)", 12);
        Edges.due(x, "score(0, 1)", 0);
        Edges.due(x, "score(0, 2)", 1);
        fault(x, 8, "^<");
        fault(x, 8, "a(<,^<)");
        right(x, "a(<,b(<,<))");
        fault(x, 8, "b(<,^<)");
        right(x, "b(<,a(<,<))");
        Edges.terms("GIVEN are at first the values of pinned vars");
        x.pin(0, 1, true);
        fault(x, 8, "^<");
        right(x, "a(<,<)");
        x.pin(0, 0, true);
        right(x, "<");
        x.pin(0, 1, false);
        fault(x, 8, "^<");
        right(x, "b(<,<)");
    }

    private static void howManyTrees() {
        Edges.terms("TREES are one for each value of that var's range");
        for (int n : new int[] {1, 2, 3, 19, 20}) {
            PlanningHouse x = Edges.with("var a in 1.." + n + ";");
            right(x, "a(" + Edges.repeat(".", n, ",") + ")");
            fault(x, 2, "a(" + Edges.repeat(".", n, ",") + "^,.)");
            fault(x, 2, "a(" + Edges.repeat(".", n, ",") + "^");
            fault(x, 2, "a(" + (n > 1 ? Edges.repeat(".", n - 1, ",") : "") + "^)");
        }
        Edges.terms("TREE number k of a var has value k of its range, in order");
        PlanningHouse x = Edges.with("var a in {5, -2, 3}; var b in {1, 0}; rule r at 0*1: a > 0; rule q at 0*1: b = 0; "
            + "aim m at 1: a;");
        Edges.put(x, 3, 0);
        right(x, "a(b(!q,.),!r,b(!q,.))");
        fault(x, 8, "a(^!r,!r,.)");
        fault(x, 8, "a(b(!q,^!q),!r,.)");
        right(x, "a(<,!r,<)");
        Edges.put(x, 5);
        fault(x, 8, "a(<,<,^<)");
    }

    private static void twelve() {
        Edges.terms("at most 12 TREES with NAME ( lie in one another, for vars are given");
        StringBuilder text = new StringBuilder();
        StringBuilder proof = new StringBuilder();
        for (int v = 0; v < 12; v++) {
            text.append("var v").append(v).append(" in {").append(v).append("};");
            proof.append('v').append(11 - v).append('(');
        }
        PlanningHouse x = Edges.with(text.toString());
        right(x, proof + "." + ")".repeat(12));
        right(x, proof + "<" + ")".repeat(12));
        fault(x, 8, proof.substring(0, proof.length() - 3) + "^." + ")".repeat(11));
        for (int v = 0; v < 12; v++) {
            fault(x, 4, proof + "^v" + v + "(.)");
        }
        fault(x, 2, proof + "." + ")".repeat(12) + "^)");
        for (int v = 0; v < 12; v++) {
            x.pin(0, v, true);
        }
        right(x, ".");
        fault(x, 4, "^v0(.)");
    }

    private static PlanningHouse withProof() {
        PlanningHouse x = house(1, 1);
        x.save(0);
        x.search(0, 0, 0, 3, 0);
        x.has(0, 0, 1, false);
        Edges.type(x, "a(b(.,.,.),<)");
        x.check(0);
        return x;
    }

    private static PlanningHouse withRightProof() {
        PlanningHouse x = withProof();
        x.cut(0);
        Edges.type(x, PROOF);
        x.check(0);
        return x;
    }

    private static void checkKeeps() {
        Edges.promise(55, "FULL without the problem; nothing changes, and fault() is as it was");
        Edges.refused(ProofEdges::withProof, Edges.FULL, "check(1)", "check(-1)", "check(3)", "check(4)", "check(MIN)",
            "check(MAX)");
        Edges.promise(55, "the tape stays, and so does all else");
        Edges.refused(ProofEdges::withRightProof, "check(0)", 0);
        Edges.refused(ProofEdges::withProof, "check(0)", -1 - 11);
        Edges.promise(55, "-1 less the place of its fault: -1 when that is 0");
        PlanningHouse x = house(1, 1);
        Edges.due(x, "check(0)", -1);
        Edges.due(x, "fault()", 2);
        Edges.type(x, "?");
        Edges.due(x, "check(0)", -1);
        Edges.due(x, "fault()", 1);
        Edges.promise(55, "a proof may be as long as the tape");
        x = house(1, 1);
        String proof = " ".repeat(20000 - PROOF.length() + 1) + PROOF.trim();
        right(x, proof);
        fault(x, 8, 19999, " ".repeat(19999) + "<");
        fault(x, 2, 20000, " ".repeat(20000));
    }

    private static void proves() {
        Edges.promise(56, "NONE, and the tape stays, when some feasible allowed plan is better");
        for (int[] worse : new int[][] {{1, 2}, {0, 0}, {0, 1}, {0, 2}, {1, 0}}) {
            Edges.Maker maker = () -> {
                PlanningHouse x = house(worse[0], worse[1]);
                Edges.type(x, "old tape");
                return x;
            };
            Edges.refused(maker, "prove(0)", Edges.NONE);
        }
        Edges.promise(56, "NONE without the problem; nothing changes");
        Edges.refused(ProofEdges::withProof, Edges.NONE, "prove(1)", "prove(-1)", "prove(3)", "prove(4)", "prove(MIN)",
            "prove(MAX)");
        Edges.promise(56, "the tape becomes a PROOF of NAME ( TREES ) and . alone");
        proved(house(1, 1), "a(b(.,.,.),b(.,.,.))");
        proved(Edges.with("var ab in {7};"), "ab(.)");
        proved(Edges.with("var a in 0..1; var b in {3}; var c in 0..1;"), "a(b(c(.,.)),b(c(.,.)))");
        Edges.promise(56, "only a better plan hinders, not one that is as good");
        PlanningHouse x = Edges.with("var a in 0..2; rule r at 1*1: a # 0;");
        Edges.put(x, 2);
        proved(x, "a(.,.,.)");
        Edges.put(x, 0);
        Edges.due(x, "prove(0)", Edges.NONE);
        Edges.promise(56, "better is also what is the same at level 1 and less at level 2");
        x = Edges.with("var a in 0..2; aim m at 1: 5; aim n at 2: pick(a : 4, 3, 3);");
        Edges.due(x, "prove(0)", Edges.NONE);
        Edges.put(x, 1);
        proved(x, "a(.,.,.)");
        x = Edges.with("var a in 0..2; aim m at 1: pick(a : 5, 6, 5); aim n at 2: pick(a : 4, 0, 4);");
        proved(x, "a(.,.,.)");
        Edges.put(x, 1);
        Edges.due(x, "prove(0)", Edges.NONE);
        Edges.promise(56, "only allowed plans count, and pinned vars are not named");
        x = house(0, 0);
        x.pin(0, 0, true);
        proved(x, "b(.,.,.)");
        x = house(1, 2);
        x.pin(0, 1, true);
        proved(x, "a(.,.)");
        x.pin(0, 0, true);
        proved(x, ".");
        Edges.promise(56, "without any feasible plan each plan at hand can be proved");
        x = house(0, 1);
        x.pin(0, 1, true);
        x.pin(0, 0, true);
        proved(x, ".");
        x = Edges.with("var a in 0..2; rule r at 0*1: a > 4;");
        proved(x, "a(.,.,.)");
    }

    private static void proved(PlanningHouse x, String proof) {
        x.cut(0);
        Edges.type(x, "what was there before, of any length");
        Edges.due("prove(0) for " + proof, x.prove(0), proof.length());
        for (int i = 0; i < proof.length(); i++) {
            Edges.due("tapeAt(" + i + ") of " + proof, x.tapeAt(i), proof.charAt(i));
        }
        Edges.due("check(0) of " + proof, x.check(0), 0);
        Edges.due("cut(0) of " + proof, x.cut(0), proof.length());
    }

    private static void lengthOfProofs() {
        Edges.promise(56, "20000 bytes may be, and NONE, the tape stays, when it would have more");
        // 3 + 2 * (3 + 12 * (5 + 18 * (10 + 18 + 17) + 17) + 11) + 1 is 20000.
        String rest = "var b in 1..12; var ccc in 1..18; var dddddddd in 1..18;";
        PlanningHouse x = Edges.with("var a in 1..2;" + rest);
        Edges.due(x, "prove(0)", 20000);
        Edges.due(x, "tapeAt(0)", 'a');
        Edges.due(x, "tapeAt(19999)", ')');
        Edges.due(x, "tapeAt(20000)", Edges.NONE);
        Edges.due(x, "check(0)", 0);
        Edges.due(x, "type(1, 1)", Edges.FULL);
        Edges.due(x, "cut(19999)", 20000);
        Edges.due(x, "type(41, 1)", 20000);
        Edges.due(x, "check(0)", 0);
        Edges.Maker maker = () -> {
            PlanningHouse y = Edges.with("var aa in 1..2;" + rest);
            Edges.type(y, "old");
            return y;
        };
        Edges.refused(maker, "prove(0)", Edges.NONE);
        x = maker.make();
        x.pin(0, 0, true);
        Edges.due(x, "prove(0)", (20001 - 5) / 2);
        Edges.due(x, "check(0)", 0);
    }
}
