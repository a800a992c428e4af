import java.util.ArrayList;
import java.util.Arrays;
import java.util.HashMap;
import java.util.HashSet;
import java.util.LinkedHashMap;
import java.util.List;
import java.util.Map;
import java.util.Set;
import java.util.TreeMap;
import java.util.function.Predicate;
import java.util.regex.Matcher;
import java.util.regex.Pattern;

/**
 * The document once more, written as plainly as it can be and without a thought of speed: each answer goes by the
 * definition, over lists of all plans. AgainstModel compares the house with it.
 */
final class Model {
    static final int NONE = -1;
    static final long NO = Long.MIN_VALUE;
    static final int FULL = -100000;

    private static final Pattern TOKEN = Pattern.compile(
        "[A-Za-z][A-Za-z0-9]*|[0-9]+|<=|>=|\\.\\.|->|[;=#<>+\\-*()\\[\\]{},:&|~!.]");
    private static final Set<String> WORDS = new HashSet<>(Arrays.asList(
        ("fact var in rule at aim all row lex ring auto busy apart abs min max pick").split(" ")));

    /** A fault, thrown where it is met. */
    static final class Fault extends RuntimeException {
        final int place;
        final int code;

        Fault(int place, int code) {
            super(null, null, false, false);
            this.place = place;
            this.code = code;
        }
    }

    /** Values of vars and facts by their names. */
    static final class Env {
        final Map<String, Integer> of = new HashMap<>();
    }

    interface Sum {
        long at(Env e);
    }

    /** By what a TEST is broken. */
    interface Test {
        long by(Env e);
    }

    static final class Rule {
        String name;
        int level;
        int weight;
        Test test;
        Set<String> vars;
    }

    static final class Aim {
        String name;
        int level;
        Sum sum;
        Set<String> vars;
    }

    static final class Future {
        int odds;
        final Map<Integer, Integer> told = new TreeMap<>();
    }

    /** A problem: what its text says, and how it is. A plan is a list of values. */
    static final class Problem {
        String text;
        final List<List<String>> shown = new ArrayList<>();
        final Map<String, Integer> numbers = new HashMap<>();
        final List<String> factNames = new ArrayList<>();
        final List<Integer> facts = new ArrayList<>();
        final List<String> varNames = new ArrayList<>();
        final List<List<Integer>> ranges = new ArrayList<>();
        final List<Rule> rules = new ArrayList<>();
        final List<Aim> aims = new ArrayList<>();
        List<Integer> hand = new ArrayList<>();
        final Set<Integer> pinned = new HashSet<>();
        final List<Integer> costs = new ArrayList<>();
        final List<Future> futures = new ArrayList<>();
        private List<List<Integer>> plans;

        List<List<Integer>> plans() {
            if (plans == null) {
                plans = new ArrayList<>();
                product(new ArrayList<>(), ranges, plans);
            }
            return plans;
        }

        static void product(List<Integer> begun, List<List<Integer>> ranges, List<List<Integer>> into) {
            if (begun.size() == ranges.size()) {
                into.add(new ArrayList<>(begun));
                return;
            }
            for (int x : ranges.get(begun.size())) {
                begun.add(x);
                product(begun, ranges, into);
                begun.remove(begun.size() - 1);
            }
        }

        Env env(List<Integer> plan, List<Integer> factValues) {
            Env e = new Env();
            for (int v = 0; v < plan.size(); v++) {
                e.of.put(varNames.get(v), plan.get(v));
            }
            for (int f = 0; f < factValues.size(); f++) {
                e.of.put(factNames.get(f), factValues.get(f));
            }
            return e;
        }

        long score(List<Integer> plan, List<Integer> factValues, int level) {
            Env e = env(plan, factValues);
            long sum = 0;
            for (Rule r : rules) {
                if (r.level == level) {
                    sum += r.weight * r.test.by(e);
                }
            }
            for (Aim a : aims) {
                if (a.level == level) {
                    sum += a.sum.at(e);
                }
            }
            return sum;
        }

        long[] scores(List<Integer> plan) {
            return new long[] {score(plan, facts, 0), score(plan, facts, 1), score(plan, facts, 2)};
        }

        boolean feasible(List<Integer> plan, List<Integer> factValues) {
            Env e = env(plan, factValues);
            for (Rule r : rules) {
                if (r.level == 0 && r.test.by(e) > 0) {
                    return false;
                }
            }
            return true;
        }

        List<List<Integer>> filter(List<List<Integer>> of, Predicate<List<Integer>> is) {
            List<List<Integer>> out = new ArrayList<>();
            for (List<Integer> plan : of) {
                if (is.test(plan)) {
                    out.add(plan);
                }
            }
            return out;
        }

        boolean agrees(List<Integer> plan, Set<Integer> vars) {
            for (int v : vars) {
                if (!plan.get(v).equals(hand.get(v))) {
                    return false;
                }
            }
            return true;
        }

        List<List<Integer>> allowed() {
            return filter(plans(), x -> agrees(x, pinned));
        }

        List<List<Integer>> feasibles() {
            return filter(allowed(), x -> feasible(x, facts));
        }

        List<List<Integer>> bestOf(List<List<Integer>> of) {
            long[] best = null;
            List<List<Integer>> out = new ArrayList<>();
            for (List<Integer> plan : of) {
                long[] s = scores(plan);
                if (best == null || better(s, best)) {
                    best = s;
                    out.clear();
                }
                if (Arrays.equals(s, best)) {
                    out.add(plan);
                }
            }
            return out;
        }

        List<List<Integer>> bests() {
            return bestOf(feasibles());
        }

        List<Integer> factsIn(Future u) {
            List<Integer> out = new ArrayList<>(facts);
            u.told.forEach(out::set);
            return out;
        }

        List<Integer> hardRules() {
            List<Integer> out = new ArrayList<>();
            for (int r = 0; r < rules.size(); r++) {
                if (rules.get(r).level == 0) {
                    out.add(r);
                }
            }
            return out;
        }
    }

    static boolean better(long[] a, long[] b) {
        return a[0] != b[0] ? a[0] < b[0] : a[1] != b[1] ? a[1] < b[1] : a[2] < b[2];
    }

    // ---- texts

    /** Comes to one token after the other; a byte at which none begins is a fault when it is come to. */
    static class Lexer {
        final String text;
        int at;
        String token;
        int end;
        int tokens;

        Lexer(String text) {
            this.text = text;
            find(0);
        }

        private void find(int from) {
            int i = from;
            while (i < text.length()) {
                char c = text.charAt(i);
                if (c == '%') {
                    int line = text.indexOf('\n', i);
                    i = line < 0 ? text.length() : line;
                } else if (c == 9 || c == 10 || c == 13 || c == 32) {
                    i++;
                } else {
                    break;
                }
            }
            at = i;
            end = i;
            token = "";
            if (i < text.length()) {
                Matcher m = TOKEN.matcher(text).region(i, text.length());
                token = m.lookingAt() ? m.group() : null;
                end = token == null ? i + 1 : m.end();
                if (token != null && (isFigures() && token.length() > 4 || isLetters() && token.length() > 8)) {
                    token = null;
                }
            }
        }

        boolean isFigures() {
            return token != null && !token.isEmpty() && Character.isDigit(token.charAt(0));
        }

        boolean isLetters() {
            return token != null && !token.isEmpty() && Character.isLetter(token.charAt(0));
        }

        boolean isName() {
            return isLetters() && !WORDS.contains(token);
        }

        boolean is(String s) {
            return s.equals(token);
        }

        String pass() {
            String was = token;
            tokens++;
            find(end);
            return was;
        }

        Fault stray() {
            return new Fault(at, token == null ? 1 : 2);
        }

        void expect(String s) {
            if (!is(s)) {
                throw stray();
            }
            pass();
        }

        int number(int low, int high) {
            if (!isFigures()) {
                throw stray();
            }
            int x = Integer.parseInt(token);
            if (x < low || x > high) {
                throw new Fault(at, 5);
            }
            pass();
            return x;
        }

        int integer() {
            if (is("-")) {
                pass();
                return -number(0, 9999);
            }
            return number(0, 9999);
        }
    }

    /** Reads a text: TERM by TERM as the grammar of the document has it. */
    static final class Parser extends Lexer {
        final Problem p = new Problem();
        Set<String> seen;

        Parser(String text) {
            super(text);
            p.text = text;
        }

        Problem read() {
            do {
                int from = at;
                statement();
                List<String> tokensOf = new ArrayList<>();
                Lexer again = new Lexer(text.substring(from, at));
                while (!again.token.isEmpty()) {
                    tokensOf.add(again.pass());
                }
                p.shown.add(tokensOf);
            } while (!is(""));
            long plans = 1;
            for (List<Integer> range : p.ranges) {
                plans *= range.size();
                p.hand.add(range.get(0));
                p.costs.add(1);
            }
            if (p.ranges.isEmpty() || plans * tokens > 20000000) {
                throw new Fault(text.length(), 6);
            }
            return p;
        }

        private void statement() {
            if (is("fact")) {
                pass();
                String name = newName(p.factNames.size(), 16);
                expect("=");
                int x = integer();
                expect(";");
                p.numbers.put(name, p.factNames.size());
                p.factNames.add(name);
                p.facts.add(x);
            } else if (is("var")) {
                pass();
                int place = at;
                String name = newName(p.varNames.size(), 12);
                expect("in");
                List<Integer> range = range();
                if (!is(";")) {
                    throw stray();
                }
                long plans = range.size();
                for (List<Integer> r : p.ranges) {
                    plans *= r.size();
                }
                if (range.size() > 20 || plans > 20000) {
                    throw new Fault(place, 6);
                }
                pass();
                p.numbers.put(name, 100 + p.varNames.size());
                p.varNames.add(name);
                p.ranges.add(range);
            } else if (is("rule")) {
                readRule();
            } else if (is("aim")) {
                pass();
                Aim a = new Aim();
                a.name = newName(p.aims.size(), 6);
                expect("at");
                a.level = number(1, 2);
                expect(":");
                seen = new HashSet<>();
                a.sum = sum(0);
                a.vars = seen;
                expect(";");
                p.numbers.put(a.name, 300 + p.aims.size());
                p.aims.add(a);
            } else {
                throw stray();
            }
        }

        private void readRule() {
            pass();
            Rule r = new Rule();
            r.name = newName(p.rules.size(), 24);
            expect("at");
            if (isFigures() && Integer.parseInt(token) == 0 && p.hardRules().size() == 12) {
                throw new Fault(at, 6);
            }
            r.level = number(0, 2);
            expect("*");
            r.weight = number(1, 1000);
            expect(":");
            seen = new HashSet<>();
            r.test = test(0);
            r.vars = seen;
            expect(";");
            p.numbers.put(r.name, 200 + p.rules.size());
            p.rules.add(r);
        }

        private String newName(int told, int most) {
            if (!isName()) {
                throw stray();
            }
            if (p.numbers.containsKey(token)) {
                throw new Fault(at, 3);
            }
            if (told == most) {
                throw new Fault(at, 6);
            }
            return pass();
        }

        private int rangeInt(Integer least, List<Integer> others) {
            boolean minus = is("-");
            if (minus) {
                pass();
            }
            if (!isFigures()) {
                throw stray();
            }
            int x = Integer.parseInt(token);
            if (x > 99) {
                throw new Fault(at, 5);
            }
            x = minus ? -x : x;
            if (least != null && x < least || others.contains(x)) {
                throw new Fault(at, 5);
            }
            pass();
            return x;
        }

        private List<Integer> range() {
            List<Integer> out = new ArrayList<>();
            if (is("{")) {
                pass();
                out.add(rangeInt(null, out));
                while (is(",")) {
                    pass();
                    out.add(rangeInt(null, out));
                }
                expect("}");
                return out;
            }
            int low = rangeInt(null, out);
            expect("..");
            int high = rangeInt(low, out);
            for (int x = low; x <= high; x++) {
                out.add(x);
            }
            return out;
        }

        /** Passes a sign that opens; there may be twelve open. */
        private void open(String sign, int opened) {
            if (!is(sign)) {
                throw stray();
            }
            if (opened == 12) {
                throw new Fault(at, 7);
            }
            pass();
        }

        Test test(int open) {
            Test a = or(open);
            if (!is("->")) {
                return a;
            }
            open("->", open);
            Test b = test(open + 1);
            return e -> a.by(e) == 0 ? b.by(e) : 0;
        }

        private Test or(int open) {
            List<Test> parts = new ArrayList<>();
            parts.add(and(open));
            while (is("|")) {
                pass();
                parts.add(and(open));
            }
            return e -> {
                long least = Long.MAX_VALUE;
                for (Test t : parts) {
                    least = Math.min(least, t.by(e));
                }
                return least;
            };
        }

        private Test and(int open) {
            List<Test> parts = new ArrayList<>();
            parts.add(unit(open));
            while (is("&")) {
                pass();
                parts.add(unit(open));
            }
            return e -> {
                long by = parts.get(0).by(e);
                for (int i = 1; i < parts.size(); i++) {
                    by = Math.min(1000000, by + parts.get(i).by(e));
                }
                return by;
            };
        }

        private Test unit(int open) {
            if (is("~")) {
                open("~", open);
                Test t = unit(open + 1);
                return e -> t.by(e) == 0 ? 1 : 0;
            }
            if (is("{")) {
                open("{", open);
                Test t = test(open + 1);
                expect("}");
                return t;
            }
            if (is("all") || is("ring") || is("row") || is("lex") || is("auto") || is("busy") || is("apart")) {
                return listed();
            }
            Sum a = sum(open);
            if (!(is("=") || is("#") || is("<") || is("<=") || is(">") || is(">="))) {
                throw stray();
            }
            String sign = pass();
            Sum b = sum(open);
            return e -> compared(sign, a.at(e), b.at(e));
        }

        private static long compared(String sign, long a, long b) {
            switch (sign) {
                case "=":
                    return Math.abs(a - b);
                case "#":
                    return a == b ? 1 : 0;
                case "<=":
                    return a - b > 0 ? a - b : 0;
                case "<":
                    return a - b + 1 > 0 ? a - b + 1 : 0;
                case ">=":
                    return compared("<=", b, a);
                default:
                    return compared("<", b, a);
            }
        }

        private String varName() {
            if (!isName()) {
                throw stray();
            }
            if (!p.varNames.contains(token)) {
                throw new Fault(at, 4);
            }
            seen.add(token);
            return pass();
        }

        private List<String> names(int fewest, int most) {
            List<String> out = new ArrayList<>();
            out.add(varName());
            while (out.size() < most && is(",")) {
                pass();
                out.add(varName());
            }
            if (out.size() < fewest) {
                throw stray();
            }
            return out;
        }

        /** Rows in ( ) of the document's pieces: each letter of the shape is one of them. */
        private List<List<Object>> items(String shape) {
            List<List<Object>> out = new ArrayList<>();
            do {
                if (!out.isEmpty()) {
                    pass();
                }
                expect("(");
                List<Object> row = new ArrayList<>();
                for (char c : shape.toCharArray()) {
                    if (!row.isEmpty()) {
                        expect(",");
                    }
                    row.add(c == 'V' ? (Object) varName() : c == 'I' ? integer() : number(0, c == 'S' ? 9 : 9999));
                }
                expect(")");
                out.add(row);
            } while (out.size() < 40 && is(","));
            return out;
        }

        private Test listed() {
            String word = pass();
            expect("(");
            Test t;
            if (word.equals("busy")) {
                int limit = number(0, 9999);
                expect(":");
                List<List<Object>> tasks = items("VNN");
                t = e -> busy(e, limit, tasks);
            } else if (word.equals("apart")) {
                List<List<Object>> boxes = items("VVNN");
                t = e -> apart(e, boxes);
            } else {
                List<String> names = names(1, 12);
                if (word.equals("all")) {
                    t = e -> names.size() - new HashSet<>(valuesOf(e, names)).size();
                } else if (word.equals("ring")) {
                    t = e -> ring(valuesOf(e, names));
                } else if (word.equals("lex")) {
                    expect(":");
                    List<String> others = names(names.size(), names.size());
                    t = e -> lex(valuesOf(e, names), valuesOf(e, others));
                } else if (word.equals("row")) {
                    expect(":");
                    List<List<Object>> rows = items("I".repeat(names.size()));
                    t = e -> row(valuesOf(e, names), rows);
                } else {
                    t = automaton(names);
                }
            }
            expect(")");
            return t;
        }

        private Test automaton(List<String> names) {
            expect(":");
            List<List<Object>> arrows = items("SIS");
            expect(":");
            List<Integer> states = new ArrayList<>();
            states.add(number(0, 9));
            while (states.size() < 10 && is(",")) {
                pass();
                states.add(number(0, 9));
            }
            return e -> auto(valuesOf(e, names), arrows, states);
        }

        Sum sum(int open) {
            Sum left = term(open);
            while (is("+") || is("-")) {
                boolean plus = pass().equals("+");
                Sum a = left;
                Sum b = term(open);
                left = e -> held(plus ? a.at(e) + b.at(e) : a.at(e) - b.at(e));
            }
            return left;
        }

        private Sum term(int open) {
            Sum left = factor(open);
            while (is("*")) {
                pass();
                Sum a = left;
                Sum b = factor(open);
                left = e -> held(a.at(e) * b.at(e));
            }
            return left;
        }

        private Sum factor(int open) {
            if (isFigures()) {
                int x = number(0, 9999);
                return e -> x;
            }
            if (isName()) {
                if (!p.varNames.contains(token) && !p.factNames.contains(token)) {
                    throw new Fault(at, 4);
                }
                if (p.varNames.contains(token)) {
                    seen.add(token);
                }
                String name = pass();
                return e -> e.of.get(name);
            }
            if (is("-")) {
                open("-", open);
                Sum a = factor(open + 1);
                return e -> held(-a.at(e));
            }
            if (is("(")) {
                open("(", open);
                Sum a = sum(open + 1);
                expect(")");
                return a;
            }
            if (is("[")) {
                open("[", open);
                Test a = test(open + 1);
                expect("]");
                return e -> a.by(e) == 0 ? 1 : 0;
            }
            if (is("abs") || is("min") || is("max") || is("pick")) {
                return function(pass(), open);
            }
            throw stray();
        }

        private Sum function(String word, int open) {
            open("(", open);
            List<Sum> sums = new ArrayList<>();
            sums.add(sum(open + 1));
            while (sums.size() < 20 && is(",") && word.startsWith("m")) {
                pass();
                sums.add(sum(open + 1));
            }
            List<Integer> ints = new ArrayList<>();
            if (word.equals("pick")) {
                expect(":");
                ints.add(integer());
                while (ints.size() < 20 && is(",")) {
                    pass();
                    ints.add(integer());
                }
            }
            expect(")");
            switch (word) {
                case "abs":
                    return e -> held(Math.abs(sums.get(0).at(e)));
                case "min":
                    return e -> sums.stream().mapToLong(s -> s.at(e)).min().getAsLong();
                case "max":
                    return e -> sums.stream().mapToLong(s -> s.at(e)).max().getAsLong();
                default:
                    return e -> {
                        long s = sums.get(0).at(e);
                        return s < 0 || s >= ints.size() ? 0 : ints.get((int) s);
                    };
            }
        }
    }

    // ---- what tests say

    static long held(long x) {
        return x > 1000000 ? 1000000 : x < -1000000 ? -1000000 : x;
    }

    static List<Integer> valuesOf(Env e, List<String> names) {
        List<Integer> out = new ArrayList<>();
        for (String n : names) {
            out.add(e.of.get(n));
        }
        return out;
    }

    static long row(List<Integer> values, List<List<Object>> rows) {
        long least = Long.MAX_VALUE;
        for (List<Object> r : rows) {
            long off = 0;
            for (int i = 0; i < values.size(); i++) {
                off += values.get(i).equals(r.get(i)) ? 0 : 1;
            }
            least = Math.min(least, off);
        }
        return least;
    }

    static long lex(List<Integer> a, List<Integer> b) {
        for (int i = 0; i < a.size(); i++) {
            if (!a.get(i).equals(b.get(i))) {
                return a.get(i) > b.get(i) ? 1 : 0;
            }
        }
        return 0;
    }

    static long ring(List<Integer> values) {
        Set<Integer> moving = new HashSet<>();
        for (int i = 0; i < values.size(); i++) {
            if (values.get(i) < 0 || values.get(i) >= values.size()) {
                return 1;
            }
            if (values.get(i) != i) {
                moving.add(i);
            }
        }
        if (new HashSet<>(values).size() < values.size()) {
            return 1;
        }
        if (moving.isEmpty()) {
            return 0;
        }
        Set<Integer> round = new HashSet<>();
        for (int i = moving.iterator().next(); round.add(i); ) {
            i = values.get(i);
        }
        return round.equals(moving) ? 0 : 1;
    }

    static long auto(List<Integer> values, List<List<Object>> arrows, List<Integer> states) {
        int state = 0;
        for (int x : values) {
            int to = -1;
            for (List<Object> a : arrows) {
                if (to < 0 && a.get(0).equals(state) && a.get(1).equals(x)) {
                    to = (Integer) a.get(2);
                }
            }
            if (to < 0) {
                return 1;
            }
            state = to;
        }
        return states.contains(state) ? 0 : 1;
    }

    static long busy(Env e, int limit, List<List<Object>> tasks) {
        long greatest = 0;
        for (int time = -100; time <= 100; time++) {
            long sum = 0;
            for (List<Object> t : tasks) {
                int from = e.of.get(t.get(0));
                if (time >= from && time < from + (Integer) t.get(1)) {
                    sum += (Integer) t.get(2);
                }
            }
            greatest = Math.max(greatest, sum);
        }
        return Math.max(0, greatest - limit);
    }

    static long apart(Env e, List<List<Object>> boxes) {
        long pairs = 0;
        for (int i = 0; i < boxes.size(); i++) {
            for (int j = i + 1; j < boxes.size(); j++) {
                List<Object> a = boxes.get(i);
                List<Object> b = boxes.get(j);
                int ax = e.of.get(a.get(0));
                int ay = e.of.get(a.get(1));
                int bx = e.of.get(b.get(0));
                int by = e.of.get(b.get(1));
                if (ax < bx + (Integer) b.get(2) && bx < ax + (Integer) a.get(2)
                    && ay < by + (Integer) b.get(3) && by < ay + (Integer) a.get(3)) {
                    pairs++;
                }
            }
        }
        return pairs;
    }

    // ---- the calls

    private final StringBuilder tape = new StringBuilder();
    private final Problem[] problems = new Problem[4];
    private int fault;
    private long above;
    private long below = 1;
    private List<String> store = new ArrayList<>();
    private int latest;
    private boolean searched;
    private int trace;
    private int seedNow;
    private int keptStep;

    private Problem at(int p) {
        return p < 0 || p > 3 ? null : problems[p];
    }

    private int free() {
        for (int p = 0; p < 4; p++) {
            if (problems[p] == null) {
                return p;
            }
        }
        return NONE;
    }

    private static boolean in(int k, List<?> list) {
        return k >= 0 && k < list.size();
    }

    private static boolean isVar(Problem q, int v) {
        return q != null && in(v, q.varNames);
    }

    private static boolean isFact(Problem q, int f) {
        return q != null && in(f, q.facts);
    }

    private static boolean isRule(Problem q, int r) {
        return q != null && in(r, q.rules);
    }

    private static boolean isLevel(int level) {
        return level >= 0 && level <= 2;
    }

    int type(long w, int n) {
        if (n < 1 || n > 8) {
            return NONE;
        }
        if (tape.length() + n > 20000) {
            return FULL;
        }
        number(tape, w, n);
        return tape.length();
    }

    private static void number(StringBuilder into, long w, int n) {
        for (int i = n - 1; i >= 0; i--) {
            into.append((char) (w >> 8 * i & 255));
        }
    }

    int cut(int n) {
        int had = tape.length();
        if (n < 0 || n > had) {
            return NONE;
        }
        tape.setLength(n);
        return had;
    }

    int spoil(int i, int by) {
        if (i < 0 || i >= tape.length()) {
            return NONE;
        }
        tape.setCharAt(i, (char) (tape.charAt(i) ^ by & 255));
        return tape.charAt(i);
    }

    int tapeAt(int i) {
        return i < 0 || i >= tape.length() ? NONE : tape.charAt(i);
    }

    int problem() {
        int p = free();
        if (p == NONE) {
            return FULL;
        }
        String text = tape.toString();
        tape.setLength(0);
        try {
            problems[p] = new Parser(text).read();
            fault = 0;
            return p;
        } catch (Fault f) {
            fault = f.code;
            return -1 - f.place;
        }
    }

    int fault() {
        return fault;
    }

    boolean drop(int p) {
        if (at(p) == null) {
            return false;
        }
        problems[p] = null;
        return true;
    }

    int count(int p, int what) {
        Problem q = at(p);
        if (q == null) {
            return NONE;
        }
        int[] counts = {q.facts.size(), q.varNames.size(), q.rules.size(), q.aims.size(), q.plans().size(),
            q.allowed().size(), q.hardRules().size(), q.futures.size(), q.text.length()};
        return what < 0 || what > 8 ? NONE : counts[what];
    }

    int find(int p) {
        Problem q = at(p);
        return q == null ? NONE : q.numbers.getOrDefault(tape.toString(), NONE);
    }

    int letter(int p, int kind, int k, int i) {
        Problem q = at(p);
        if (q == null || kind < 0 || kind > 3 || k < 0 || k > 99) {
            return NONE;
        }
        for (Map.Entry<String, Integer> e : q.numbers.entrySet()) {
            if (e.getValue() == 100 * kind + k) {
                return i < 0 || i >= e.getKey().length() ? NONE : e.getKey().charAt(i);
            }
        }
        return NONE;
    }

    int shown(int p, int k, int i) {
        Problem q = at(p);
        if (q == null || !in(k, q.shown)) {
            return NONE;
        }
        String s = String.join(" ", q.shown.get(k));
        return i < 0 || i >= s.length() ? NONE : s.charAt(i);
    }

    long range(int p, int v, int k) {
        Problem q = at(p);
        return isVar(q, v) && in(k, q.ranges.get(v)) ? q.ranges.get(v).get(k) : NO;
    }

    int rule(int p, int r, int what) {
        Problem q = at(p);
        if (!isRule(q, r) || what < 0 || what > 3) {
            return NONE;
        }
        Rule x = q.rules.get(r);
        if (what == 0) {
            return x.level;
        }
        if (what == 1) {
            return x.weight;
        }
        if (what == 2) {
            int set = 0;
            for (String name : x.vars) {
                set += 1 << q.varNames.indexOf(name);
            }
            return set;
        }
        return q.filter(q.plans(), y -> x.test.by(q.env(y, q.facts)) > 0).isEmpty() ? 0 : 1;
    }

    long fact(int p, int f) {
        Problem q = at(p);
        return isFact(q, f) ? q.facts.get(f) : NO;
    }

    boolean change(int p, int f, int value) {
        Problem q = at(p);
        if (!isFact(q, f) || Math.abs((long) value) > 9999) {
            return false;
        }
        q.facts.set(f, value);
        return true;
    }

    long value(int p, int v) {
        Problem q = at(p);
        return isVar(q, v) ? q.hand.get(v) : NO;
    }

    boolean put(int p, int v, int value) {
        Problem q = at(p);
        if (!isVar(q, v) || !q.ranges.get(v).contains(value)) {
            return false;
        }
        q.hand = new ArrayList<>(q.hand);
        q.hand.set(v, value);
        return true;
    }

    boolean pin(int p, int v, boolean is) {
        Problem q = at(p);
        if (!isVar(q, v)) {
            return false;
        }
        return is ? !q.pinned.add(v) : q.pinned.remove(v);
    }

    int weigh(int p, int v, int cost) {
        Problem q = at(p);
        return !isVar(q, v) || cost < 0 || cost > 1000 ? NONE : q.costs.set(v, cost);
    }

    int broken(int p, int r) {
        Problem q = at(p);
        return isRule(q, r) ? (int) q.rules.get(r).test.by(q.env(q.hand, q.facts)) : NONE;
    }

    long aim(int p, int a) {
        Problem q = at(p);
        return q != null && in(a, q.aims) ? q.aims.get(a).sum.at(q.env(q.hand, q.facts)) : NO;
    }

    long score(int p, int level) {
        Problem q = at(p);
        return q != null && isLevel(level) ? q.score(q.hand, q.facts, level) : NO;
    }

    boolean feasible(int p) {
        Problem q = at(p);
        return q != null && q.feasible(q.hand, q.facts);
    }

    private static List<List<Integer>> left(Problem q) {
        List<List<Integer>> left = new ArrayList<>();
        for (int v = 0; v < q.varNames.size(); v++) {
            left.add(new ArrayList<>(q.pinned.contains(v) ? List.of(q.hand.get(v)) : q.ranges.get(v)));
        }
        while (dropOne(q, left)) {
            continue;
        }
        return left;
    }

    private static boolean dropOne(Problem q, List<List<Integer>> left) {
        List<List<Integer>> plans = new ArrayList<>();
        Problem.product(new ArrayList<>(), left, plans);
        for (int r : q.hardRules()) {
            Test t = q.rules.get(r).test;
            List<List<Integer>> keeping = q.filter(plans, x -> t.by(q.env(x, q.facts)) == 0);
            for (int v = 0; v < left.size(); v++) {
                Set<Integer> met = new HashSet<>();
                for (List<Integer> x : keeping) {
                    met.add(x.get(v));
                }
                for (Integer x : left.get(v)) {
                    if (!met.contains(x)) {
                        left.get(v).remove(x);
                        return true;
                    }
                }
            }
        }
        return false;
    }

    int reach(int p) {
        Problem q = at(p);
        if (q == null) {
            return NONE;
        }
        int n = 0;
        for (List<Integer> x : left(q)) {
            n += x.size();
        }
        return n;
    }

    boolean isLeft(int p, int v, int k) {
        Problem q = at(p);
        return isVar(q, v) && in(k, q.ranges.get(v)) && left(q).get(v).contains(q.ranges.get(v).get(k));
    }

    int hopeless(int p) {
        Problem q = at(p);
        if (q != null) {
            for (int r : q.hardRules()) {
                if (clashes(q, List.of(r))) {
                    return r;
                }
            }
        }
        return NONE;
    }

    private static boolean takeFirst(Problem q, List<List<Integer>> of, int k) {
        if (!in(k, of)) {
            return false;
        }
        q.hand = of.get(k);
        return true;
    }

    int solve(int p) {
        Problem q = at(p);
        return q == null ? NONE : takeFirst(q, q.bests(), 0) ? 1 : 0;
    }

    private static long scoreOfFirst(Problem q, List<List<Integer>> of, int level) {
        return of.isEmpty() || !isLevel(level) ? NO : q.score(of.get(0), q.facts, level);
    }

    long best(int p, int level) {
        Problem q = at(p);
        return q == null ? NO : scoreOfFirst(q, q.bests(), level);
    }

    int bests(int p) {
        Problem q = at(p);
        return q == null ? NONE : q.bests().size();
    }

    boolean bestAt(int p, int k) {
        Problem q = at(p);
        return q != null && takeFirst(q, q.bests(), k);
    }

    int feasibles(int p) {
        Problem q = at(p);
        return q == null ? NONE : q.feasibles().size();
    }

    boolean feasibleAt(int p, int k) {
        Problem q = at(p);
        return q != null && takeFirst(q, q.feasibles(), k);
    }

    private void board(long a, long b) {
        long g = java.math.BigInteger.valueOf(a).gcd(java.math.BigInteger.valueOf(b)).longValue();
        above = b == 0 ? 0 : a / g;
        below = b == 0 ? 1 : b / g;
    }

    int has(int p, int v, int value, boolean best) {
        Problem q = at(p);
        if (!isVar(q, v)) {
            return NONE;
        }
        List<List<Integer>> of = best ? q.bests() : q.feasibles();
        int n = q.filter(of, x -> x.get(v) == value).size();
        board(n, of.size());
        return n;
    }

    int choices(int p, int v) {
        Problem q = at(p);
        if (!isVar(q, v)) {
            return NONE;
        }
        Set<Integer> met = new HashSet<>();
        for (List<Integer> x : q.bests()) {
            met.add(x.get(v));
        }
        return met.size();
    }

    int mend(int p, int set) {
        Problem q = at(p);
        if (q == null) {
            return NONE;
        }
        Set<Integer> fixed = new HashSet<>();
        for (int v = 0; v < q.varNames.size(); v++) {
            if ((set >> v & 1) == 0) {
                fixed.add(v);
            }
        }
        List<List<Integer>> of = q.filter(q.plans(), x -> q.agrees(x, fixed) && q.feasible(x, q.facts));
        return takeFirst(q, q.bestOf(of), 0) ? 1 : 0;
    }

    /** The plans of each pair of the front. */
    private static List<List<List<Integer>>> frontOf(Problem q) {
        TreeMap<Long, TreeMap<Long, List<List<Integer>>>> pairs = new TreeMap<>();
        for (List<Integer> x : q.feasibles()) {
            pairs.computeIfAbsent(q.score(x, q.facts, 1), k -> new TreeMap<>())
                .computeIfAbsent(q.score(x, q.facts, 2), k -> new ArrayList<>()).add(x);
        }
        List<List<List<Integer>>> out = new ArrayList<>();
        pairs.forEach((one, twos) -> twos.forEach((two, plans) -> {
            boolean beaten = false;
            for (Map.Entry<Long, TreeMap<Long, List<List<Integer>>>> other : pairs.entrySet()) {
                for (long otherTwo : other.getValue().keySet()) {
                    boolean notMore = other.getKey() <= one && otherTwo <= two;
                    beaten |= notMore && (other.getKey() < one || otherTwo < two);
                }
            }
            if (!beaten) {
                out.add(plans);
            }
        }));
        return out;
    }

    int front(int p) {
        Problem q = at(p);
        return q == null ? NONE : frontOf(q).size();
    }

    long frontAt(int p, int k, int what) {
        Problem q = at(p);
        if (q == null || what < 0 || what > 2 || !in(k, frontOf(q))) {
            return NO;
        }
        List<List<Integer>> plans = frontOf(q).get(k);
        return what == 0 ? plans.size() : q.score(plans.get(0), q.facts, what);
    }

    boolean frontPlan(int p, int k) {
        Problem q = at(p);
        return q != null && in(k, frontOf(q)) && takeFirst(q, frontOf(q).get(k), 0);
    }

    int near(int p, boolean best) {
        Problem q = at(p);
        if (q == null) {
            return NONE;
        }
        int least = NONE;
        List<Integer> nearest = q.hand;
        for (List<Integer> x : best ? q.bests() : q.feasibles()) {
            int cost = 0;
            for (int v = 0; v < x.size(); v++) {
                cost += x.get(v).equals(q.hand.get(v)) ? 0 : q.costs.get(v);
            }
            if (least < 0 || cost < least) {
                least = cost;
                nearest = x;
            }
        }
        q.hand = nearest;
        return least;
    }

    private static boolean clashes(Problem q, List<Integer> rules) {
        for (List<Integer> x : q.allowed()) {
            Env e = q.env(x, q.facts);
            boolean breaksOne = false;
            for (int r : rules) {
                breaksOne |= q.rules.get(r).test.by(e) > 0;
            }
            if (!breaksOne) {
                return false;
            }
        }
        return true;
    }

    private static int bits(List<Integer> rules) {
        int set = 0;
        for (int r : rules) {
            set |= 1 << r;
        }
        return set;
    }

    int clash(int p) {
        Problem q = at(p);
        if (q == null) {
            return NONE;
        }
        List<Integer> in = q.hardRules();
        if (!clashes(q, in)) {
            return 0;
        }
        for (Integer r : q.hardRules()) {
            List<Integer> less = new ArrayList<>(in);
            less.remove(r);
            if (clashes(q, less)) {
                in = less;
            }
        }
        return bits(in);
    }

    private static List<List<Integer>> setsOf(List<Integer> rules) {
        List<List<Integer>> out = new ArrayList<>();
        for (int s = 0; s < 1 << rules.size(); s++) {
            List<Integer> set = new ArrayList<>();
            for (int i = 0; i < rules.size(); i++) {
                if ((s >> i & 1) != 0) {
                    set.add(rules.get(i));
                }
            }
            out.add(set);
        }
        return out;
    }

    int fewest(int p) {
        Problem q = at(p);
        if (q == null) {
            return NONE;
        }
        List<Integer> found = null;
        for (List<Integer> set : setsOf(q.hardRules())) {
            boolean less = found == null || set.size() < found.size()
                || set.size() == found.size() && bits(set) < bits(found);
            if (less && clashes(q, set)) {
                found = set;
            }
        }
        return found == null ? 0 : bits(found);
    }

    int relax(int p) {
        Problem q = at(p);
        if (q == null) {
            return NONE;
        }
        int found = NONE;
        int least = 0;
        for (List<Integer> set : setsOf(q.hardRules())) {
            int weight = 0;
            for (int r : set) {
                weight += q.rules.get(r).weight;
            }
            List<Integer> rest = q.hardRules();
            rest.removeAll(set);
            boolean less = found < 0 || weight < least || weight == least && bits(set) < found;
            if (less && !clashes(q, rest)) {
                found = bits(set);
                least = weight;
            }
        }
        return found;
    }

    long without(int p, int r, int level) {
        Problem q = at(p);
        if (!isRule(q, r)) {
            return NO;
        }
        Rule gone = q.rules.remove(r);
        long answer = scoreOfFirst(q, q.bests(), level);
        q.rules.add(r, gone);
        return answer;
    }

    private static List<List<Integer>> bestsWith(Problem q, int v, int value) {
        return q.bestOf(q.filter(q.feasibles(), x -> x.get(v) == value));
    }

    long whyNot(int p, int v, int value, int level) {
        Problem q = at(p);
        return isVar(q, v) ? scoreOfFirst(q, bestsWith(q, v, value), level) : NO;
    }

    int because(int p, int v, int value) {
        Problem q = at(p);
        if (!isVar(q, v) || bestsWith(q, v, value).isEmpty()) {
            return NONE;
        }
        Env there = q.env(bestsWith(q, v, value).get(0), q.facts);
        Env best = q.env(q.bests().get(0), q.facts);
        for (int r = 0; r < q.rules.size(); r++) {
            if (q.rules.get(r).test.by(there) > q.rules.get(r).test.by(best)) {
                return r;
            }
        }
        return NONE;
    }

    int future(int p, int odds) {
        Problem q = at(p);
        if (q == null || odds < 1 || odds > 100) {
            return NONE;
        }
        if (q.futures.size() == 6) {
            return FULL;
        }
        Future u = new Future();
        u.odds = odds;
        q.futures.add(u);
        return q.futures.size() - 1;
    }

    boolean told(int p, int u, int f, int value) {
        Problem q = at(p);
        if (!isFact(q, f) || !in(u, q.futures) || Math.abs((long) value) > 9999) {
            return false;
        }
        q.futures.get(u).told.put(f, value);
        return true;
    }

    int unfold(int p) {
        Problem q = at(p);
        if (q == null) {
            return NONE;
        }
        int had = q.futures.size();
        q.futures.clear();
        return had;
    }

    int robust(int p) {
        Problem q = at(p);
        if (q == null) {
            return NONE;
        }
        long[] best = null;
        List<Integer> found = null;
        for (List<Integer> x : q.futures.isEmpty() ? new ArrayList<List<Integer>>() : q.allowed()) {
            long[] sums = new long[3];
            boolean always = true;
            for (Future u : q.futures) {
                always &= q.feasible(x, q.factsIn(u));
                for (int level = 0; level < 3; level++) {
                    sums[level] += u.odds * q.score(x, q.factsIn(u), level);
                }
            }
            if (always && (best == null || better(sums, best))) {
                best = sums;
                found = x;
            }
        }
        if (found == null) {
            return 0;
        }
        q.hand = found;
        return 1;
    }

    long expected(int p, int level) {
        Problem q = at(p);
        if (q == null || q.futures.isEmpty() || !isLevel(level)) {
            return NO;
        }
        long sum = 0;
        long odds = 0;
        for (Future u : q.futures) {
            sum += u.odds * q.score(q.hand, q.factsIn(u), level);
            odds += u.odds;
        }
        board(sum, odds);
        return sum;
    }

    long regret(int p, int level) {
        Problem q = at(p);
        if (q == null || q.futures.isEmpty() || !isLevel(level)) {
            return NO;
        }
        long most = NO;
        for (Future u : q.futures) {
            List<Integer> facts = q.factsIn(u);
            List<List<Integer>> of = q.filter(q.allowed(), x -> q.feasible(x, facts));
            if (of.isEmpty()) {
                return NO;
            }
            long least = of.stream().mapToLong(x -> q.score(x, facts, level)).min().getAsLong();
            most = Math.max(most, q.score(q.hand, facts, level) - least);
        }
        return most;
    }

    // ---- searches

    private int draw(int n) {
        seedNow = seedNow * 1664525 + 1013904223;
        return (seedNow >>> 8) % n;
    }

    private static long worth(long[] s) {
        return 10000 * s[0] + 100 * s[1] + s[2];
    }

    int search(int p, int how, int length, int seed, int steps) {
        Problem q = at(p);
        int[] most = {0, 20, 100, 10000};
        if (q == null || steps < 0 || steps > 2000 || how < 0 || how > 3
            || how > 0 && (length < 1 || length > most[how])) {
            return NONE;
        }
        searched = true;
        trace = 1;
        seedNow = seed;
        keptStep = NONE;
        List<Integer> free = new ArrayList<>();
        for (int v = 0; v < q.varNames.size(); v++) {
            if (!q.pinned.contains(v) && q.ranges.get(v).size() > 1) {
                free.add(v);
            }
        }
        if (free.isEmpty()) {
            return 0;
        }
        int taken = 0;
        List<Integer> current = q.hand;
        List<Integer> kept = q.hand;
        long[][] row = new long[Math.max(1, length < 21 ? length : 1)][];
        Arrays.fill(row, q.scores(current));
        Map<Integer, Integer> changedAt = new HashMap<>();
        for (int s = 0; s < steps; s++) {
            int k = draw(4);
            List<Integer> next = new ArrayList<>(current);
            Set<Integer> moved = new java.util.LinkedHashSet<>();
            if (k < 3) {
                int v = free.get(draw(free.size()));
                List<Integer> range = q.ranges.get(v);
                int place = draw(range.size() - 1);
                if (place >= range.indexOf(current.get(v))) {
                    place++;
                }
                next.set(v, range.get(place));
                moved.add(v);
            } else {
                int a = free.get(draw(free.size()));
                int b = free.get(draw(free.size()));
                boolean fits = q.ranges.get(a).contains(current.get(b)) && q.ranges.get(b).contains(current.get(a));
                if (a == b || !fits) {
                    continue;
                }
                next.set(a, current.get(b));
                next.set(b, current.get(a));
                moved.add(a);
                moved.add(b);
            }
            long[] news = q.scores(next);
            boolean notWorse = !better(q.scores(current), news);
            boolean take;
            if (how == 0) {
                take = notWorse;
            } else if (how == 1) {
                take = notWorse || !better(row[s % length], news);
            } else if (how == 2) {
                boolean may = better(news, q.scores(kept));
                boolean held = false;
                for (int v : moved) {
                    held |= changedAt.containsKey(v) && s - changedAt.get(v) <= length;
                }
                may |= !held;
                take = may && (notWorse || draw(8) == 0);
            } else {
                take = worth(news) - worth(q.scores(current)) <= length - length * s / steps;
            }
            if (take) {
                taken++;
                trace = 31 * trace + k;
                current = next;
                for (int v : moved) {
                    changedAt.put(v, s);
                }
                if (better(news, q.scores(kept))) {
                    kept = next;
                    keptStep = s;
                }
            }
            if (how == 1) {
                row[s % length] = q.scores(current);
            }
        }
        q.hand = kept;
        return taken;
    }


    int searched(int what) {
        if (!searched || what < 0 || what > 2) {
            return NONE;
        }
        return what == 0 ? trace : what == 1 ? seedNow : keptStep;
    }

    // ---- proofs

    int check(int p) {
        Problem q = at(p);
        if (q == null) {
            return FULL;
        }
        try {
            Lexer in = new Lexer(tape.toString());
            Map<Integer, Integer> given = new LinkedHashMap<>();
            for (int v : q.pinned) {
                given.put(v, q.hand.get(v));
            }
            tree(q, in, given);
            if (!in.is("")) {
                throw in.stray();
            }
            fault = 0;
            return 0;
        } catch (Fault f) {
            fault = f.code;
            return -1 - f.place;
        }
    }

    private static List<List<Integer>> plansWith(Problem q, Map<Integer, Integer> given) {
        return q.filter(q.plans(), x -> {
            boolean is = true;
            for (Map.Entry<Integer, Integer> e : given.entrySet()) {
                is &= x.get(e.getKey()).equals(e.getValue());
            }
            return is;
        });
    }

    private static void tree(Problem q, Lexer in, Map<Integer, Integer> given) {
        int sign = in.at;
        if (in.is("!")) {
            in.pass();
            if (!in.isName()) {
                throw in.stray();
            }
            int r = q.numbers.getOrDefault(in.token, 0) - 200;
            if (r < 0 || r > 99 || q.rules.get(r).level > 0) {
                throw new Fault(in.at, 4);
            }
            Test t = q.rules.get(r).test;
            if (!q.filter(plansWith(q, given), x -> t.by(q.env(x, q.facts)) == 0).isEmpty()) {
                throw new Fault(sign, 8);
            }
            in.pass();
        } else if (in.is(".")) {
            boolean right = given.size() == q.varNames.size();
            if (right) {
                List<Integer> x = plansWith(q, given).get(0);
                right = !q.feasible(x, q.facts) || !better(q.scores(x), q.scores(q.hand));
            }
            if (!right) {
                throw new Fault(sign, 8);
            }
            in.pass();
        } else if (in.is("<")) {
            if (better(bound(q, plansWith(q, given)), q.scores(q.hand))) {
                throw new Fault(sign, 8);
            }
            in.pass();
        } else if (in.isName()) {
            int v = q.varNames.indexOf(in.token);
            if (v < 0 || given.containsKey(v)) {
                throw new Fault(sign, 4);
            }
            in.pass();
            in.expect("(");
            for (int k = 0; k < q.ranges.get(v).size(); k++) {
                if (k > 0) {
                    in.expect(",");
                }
                Map<Integer, Integer> more = new LinkedHashMap<>(given);
                more.put(v, q.ranges.get(v).get(k));
                tree(q, in, more);
            }
            in.expect(")");
        } else {
            throw in.stray();
        }
    }

    private static long[] bound(Problem q, List<List<Integer>> plans) {
        long[] sums = new long[3];
        for (Rule r : q.rules) {
            sums[r.level] += r.weight
                * plans.stream().mapToLong(x -> r.test.by(q.env(x, q.facts))).min().getAsLong();
        }
        for (Aim a : q.aims) {
            sums[a.level] += plans.stream().mapToLong(x -> a.sum.at(q.env(x, q.facts))).min().getAsLong();
        }
        return sums;
    }

    int prove(int p) {
        Problem q = at(p);
        if (q == null) {
            return NONE;
        }
        long[] mine = q.scores(q.hand);
        if (!q.filter(q.feasibles(), x -> better(q.scores(x), mine)).isEmpty()) {
            return NONE;
        }
        String text = ".";
        for (int v = q.varNames.size() - 1; v >= 0; v--) {
            if (!q.pinned.contains(v)) {
                List<String> trees = new ArrayList<>();
                for (int k = 0; k < q.ranges.get(v).size(); k++) {
                    trees.add(text);
                }
                text = q.varNames.get(v) + "(" + String.join(",", trees) + ")";
                if (text.length() > 20000) {
                    return NONE;
                }
            }
        }
        tape.setLength(0);
        tape.append(text);
        return text.length();
    }

    long above() {
        return above;
    }

    long below() {
        return below;
    }

    // ---- the store

    static long sumOf(String s) {
        long sum = 0;
        for (char b : s.toCharArray()) {
            sum = Long.rotateLeft(sum ^ b, 53) * 0xC2B2AE3D27D4EB4FL;
        }
        return sum;
    }

    private static String rowOf(Problem q) {
        StringBuilder s = new StringBuilder();
        s.append((char) 211);
        number(s, q.text.length(), 2);
        s.append(q.text);
        for (int f : q.facts) {
            number(s, f, 4);
        }
        int pins = 0;
        for (int v = 0; v < q.hand.size(); v++) {
            number(s, q.hand.get(v), 1);
            number(s, q.costs.get(v), 2);
            pins |= q.pinned.contains(v) ? 1 << v : 0;
        }
        number(s, pins, 2);
        number(s, sumOf(s.toString()), 8);
        return s.toString();
    }

    int save(int p) {
        Problem q = at(p);
        if (q == null) {
            return NONE;
        }
        String row = rowOf(q);
        if (store.size() == 100 || size() + row.length() > 19990) {
            return FULL;
        }
        store.add(row);
        latest = 1;
        return store.size() - 1;
    }

    /** Reads one row at the beginning of a string: the problem, or null; its text is as long as the row is. */
    private static Problem problemOf(String s, int[] length) {
        if (s.length() < 3 || s.charAt(0) != 211) {
            return null;
        }
        int n = (int) read(s, 1, 2);
        if (s.length() < 3 + n) {
            return null;
        }
        Problem q;
        try {
            q = new Parser(s.substring(3, 3 + n)).read();
        } catch (Fault f) {
            return null;
        }
        int i = 3 + n;
        if (s.length() < i + 4 * q.facts.size() + 3 * q.varNames.size() + 10) {
            return null;
        }
        for (int f = 0; f < q.facts.size(); f++, i += 4) {
            q.facts.set(f, (int) read(s, i, 4));
            if (Math.abs((long) q.facts.get(f)) > 9999) {
                return null;
            }
        }
        for (int v = 0; v < q.varNames.size(); v++, i += 3) {
            int x = (int) read(s, i, 1);
            q.hand.set(v, x > 127 ? x - 256 : x);
            q.costs.set(v, (int) read(s, i + 1, 2));
            if (!q.ranges.get(v).contains(q.hand.get(v)) || q.costs.get(v) > 1000) {
                return null;
            }
        }
        int pins = (int) read(s, i, 2);
        for (int v = 0; v < 16; v++) {
            if ((pins >> v & 1) != 0) {
                q.pinned.add(v);
                if (v >= q.varNames.size()) {
                    return null;
                }
            }
        }
        length[0] = i + 10;
        return read(s, i + 2, 8) == sumOf(s.substring(0, i + 2)) ? q : null;
    }

    private static long read(String s, int from, int n) {
        long w = 0;
        for (int i = from; i < from + n; i++) {
            w = w * 256 + s.charAt(i);
        }
        return w;
    }

    int load(int k) {
        if (!in(k, store)) {
            return NONE;
        }
        int p = free();
        if (p == NONE) {
            return FULL;
        }
        problems[p] = problemOf(store.get(k), new int[1]);
        return p;
    }

    int rows() {
        return store.size();
    }

    int size() {
        return String.join("", store).length();
    }

    int byteAt(int i) {
        String all = String.join("", store);
        return i < 0 || i >= all.length() ? NONE : all.charAt(i);
    }

    int crash(int n) {
        if (n < 0) {
            return NONE;
        }
        int first = store.size() - latest;
        int there = 0;
        int whole = 0;
        for (int k = first; k < store.size(); k++) {
            there += store.get(k).length();
            whole += there <= n ? 1 : 0;
        }
        store = new ArrayList<>(store.subList(0, first + whole));
        latest = 0;
        return store.size();
    }

    int take() {
        tape.setLength(0);
        number(tape, store.size(), 2);
        tape.append(String.join("", store));
        number(tape, sumOf(tape.toString()), 8);
        return tape.length();
    }

    int bring() {
        String s = tape.toString();
        if (s.length() < 10) {
            return NONE;
        }
        int n = (int) read(s, 0, 2);
        List<String> rows = new ArrayList<>();
        int i = 2;
        for (int k = 0; k < n; k++) {
            int[] length = new int[1];
            if (problemOf(s.substring(i), length) == null) {
                return NONE;
            }
            rows.add(s.substring(i, i + length[0]));
            i += length[0];
        }
        if (s.length() != i + 8 || read(s, i, 8) != sumOf(s.substring(0, i))) {
            return NONE;
        }
        if (store.size() + n > 100 || size() + i - 2 > 19990) {
            return FULL;
        }
        store.addAll(rows);
        latest = n > 0 ? n : latest;
        tape.setLength(0);
        return n;
    }
}
