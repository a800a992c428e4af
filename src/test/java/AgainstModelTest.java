import java.lang.reflect.Method;
import java.util.ArrayList;
import java.util.Arrays;
import java.util.List;
import java.util.Random;
import java.util.regex.Matcher;
import java.util.regex.Pattern;

/**
 * Random runs of calls, the same on a house and on the model: every answer must be the same.
 * Arguments: the first seed, and how many runs.
 */
public final class AgainstModelTest {
    // Each call with the sorts of its arguments; how often it stands here is how often it is made.
    private static final String[] CALLS = {
        "cut length", "spoil place byte", "tapeAt place", "fault", "count p what", "find p",
        "letter p kind k i", "letter p kind k i", "shown p k i", "shown p k i", "range p v k", "rule p r few",
        "rule p r what", "fact p f", "change p f value", "change p f small", "change p f small", "value p v",
        "put p v x", "put p v x", "put p v x", "pin p v is", "pin p v is", "weigh p v cost", "broken p r",
        "broken p r", "aim p a", "score p level", "score p level", "feasible p", "reach p", "isLeft p v k",
        "isLeft p v k", "hopeless p", "solve p", "best p level", "bests p", "bestAt p k", "feasibles p",
        "feasibleAt p k", "has p v x is", "has p v x is", "choices p v", "mend p set", "mend p set", "front p",
        "frontAt p few few", "frontAt p k what", "frontPlan p k", "near p is", "near p is", "clash p", "fewest p",
        "relax p", "without p r level", "without p r level", "whyNot p v x level", "whyNot p v x level",
        "because p v x", "because p v x", "future p odds", "future p odds", "told p u f small",
        "told p u f value", "unfold p", "robust p", "expected p level", "regret p level", "search p how span seed steps",
        "search p how span seed steps", "searched few", "searched what", "check p", "prove p", "above", "below", "save p", "load k",
        "rows", "size", "byteAt place", "crash length", "take", "bring", "problem"
    };

    private final Random random;
    private final PlanningHouse house = new PlanningHouse();
    private final Model model = new Model();
    private final List<String> log = new ArrayList<>();
    private Text text;
    private int number;
    private boolean wrong;

    private AgainstModelTest(long seed) {
        random = new Random(seed);
        text = new Text(random);
    }

    public static void main(String[] args) throws Exception {
        long first = args.length > 0 ? Long.parseLong(args[0]) : 1;
        int runs = args.length > 1 ? Integer.parseInt(args[1]) : 1500;
        int wrongRuns = 0;
        for (long seed = first; seed < first + runs && wrongRuns < 3; seed++) {
            AgainstModelTest run = new AgainstModelTest(seed);
            run.go();
            if (run.wrong) {
                wrongRuns++;
                System.out.println("seed " + seed + ":");
                run.log.forEach(System.out::println);
            }
        }
        System.out.println(wrongRuns == 0 ? "all " + runs + " runs agree with the model" : "some runs do not agree");
        System.exit(wrongRuns == 0 ? 0 : 1);
    }

    private void go() throws Exception {
        if (random.nextInt(4) == 0) {
            for (int i = 0; i < 30 && !wrong; i++) {
                readSpoiled();
            }
        }
        readProblem();
        int calls = random.nextInt(120);
        for (int i = 0; i < calls && !wrong; i++) {
            switch (random.nextInt(40)) {
                case 0:
                    readProblem();
                    break;
                case 1:
                    readSpoiled();
                    break;
                case 2:
                case 3:
                    checkProof();
                    break;
                case 4:
                    bringSpoiled();
                    break;
                case 5:
                    call("cut", 0);
                    type(text.names.get(random.nextInt(text.names.size())));
                    call("find", anyOf("p"));
                    break;
                default:
                    randomCall();
            }
        }
    }

    private void readProblem() throws Exception {
        Text next = new Text(random);
        call("cut", 0);
        type(next.write());
        if (random.nextInt(3) > 0) {
            call("drop", number);
        }
        long p = call("problem");
        if (p >= 0) {
            text = next;
            number = (int) p;
        }
        call("fault");
    }

    /** A text with something wrong in it, in all likelihood. */
    private void readSpoiled() throws Exception {
        Text next = new Text(random);
        StringBuilder s = new StringBuilder(next.write());
        int times = 1 + random.nextInt(2);
        for (int i = 0; i < times; i++) {
            if (random.nextInt(3) == 0) {
                spoil(s, next);
            } else {
                spoilToken(s, next);
            }
        }
        call("cut", 0);
        type(s.toString());
        call("drop", random.nextInt(4));
        call("problem");
        call("fault");
    }

    private void spoil(StringBuilder s, Text of) {
        String[] bits = {"(", ")", "[", "]", "{", "}", ",", ":", "..", ".", "&", "|", "~", "->", "-", "!", "0", "7",
            "123", "9999", "10000", "abcdefgh", "abcdefghi", "fact ", " var ", " all ", "abs", " min(", ";", "%", "\n",
            "?", "$", "\u00e9", "\u0000", "=", "<", "in", " at ", "rule ", of.names.get(0), "((((((", "~~~~~~", "------"};
        int from = random.nextInt(s.length() + 1);
        int to = Math.min(s.length(), from + random.nextInt(4));
        switch (random.nextInt(4)) {
            case 0:
                s.delete(from, to);
                break;
            case 1:
                s.insert(from, bits[random.nextInt(bits.length)]);
                break;
            case 2:
                s.replace(from, to, bits[random.nextInt(bits.length)]);
                break;
            default:
                int other = random.nextInt(s.length() + 1);
                s.insert(other, s.substring(from, to));
        }
    }

    /** One token is taken away, told twice, or is another one. */
    private void spoilToken(StringBuilder s, Text of) {
        String[] numbers = {"0", "1", "2", "3", "9", "10", "00", "20", "99", "100", "0100", "1000", "1001", "9999"};
        String[] opens = {"( ", "[ ", "{ ", "~ ", "- ", "abs ( ", "1 = 1 -> ", "[ 1 = "};
        Matcher m = Pattern.compile("[A-Za-z][A-Za-z0-9]*|[0-9]+|<=|>=|\\.\\.|->|[^ ]").matcher(s);
        List<int[]> tokens = new ArrayList<>();
        while (m.find()) {
            tokens.add(new int[] {m.start(), m.end()});
        }
        int[] one = tokens.get(random.nextInt(tokens.size()));
        int[] other = tokens.get(random.nextInt(tokens.size()));
        String token = s.substring(one[0], one[1]);
        switch (random.nextInt(6)) {
            case 0:
                s.delete(one[0], one[1]);
                break;
            case 1:
                s.insert(one[1], " " + token + " ");
                break;
            case 2:
                s.replace(one[0], one[1], " " + s.substring(other[0], other[1]) + " ");
                break;
            case 3:
                int from = s.indexOf(":");
                String open = opens[random.nextInt(opens.length)].repeat(1 + random.nextInt(14));
                s.insert(random.nextBoolean() && from >= 0 ? from + 1 : one[0], " " + open);
                break;
            default:
                if (Character.isDigit(token.charAt(0))) {
                    s.replace(one[0], one[1], numbers[random.nextInt(numbers.length)]);
                } else if (Character.isLetter(token.charAt(0))) {
                    s.replace(one[0], one[1], of.names.get(random.nextInt(of.names.size())));
                }
        }
    }

    private void checkProof() throws Exception {
        int kind = random.nextInt(4);
        if (kind == 0) {
            call("solve", number);
            call("prove", number);
        } else {
            StringBuilder s = new StringBuilder(text.proof(kind));
            if (random.nextInt(3) == 0) {
                spoil(s, text);
            }
            call("cut", 0);
            type(s.toString());
        }
        call("check", number);
        call("fault");
        if (random.nextBoolean()) {
            call("spoil", random.nextInt(40), random.nextInt(64));
            call("check", number);
            call("fault");
        }
    }

    /** An export that is wrong in one place, with sums that are right again or not. */
    private void bringSpoiled() throws Exception {
        call("save", number);
        call("take");
        StringBuilder s = new StringBuilder();
        for (int i = 0; model.tapeAt(i) >= 0; i++) {
            s.append((char) model.tapeAt(i));
        }
        int rows = model.rows();
        if (rows != 1 || random.nextInt(5) == 0) {
            call("bring");
            return;
        }
        StringBuilder row = new StringBuilder(s.substring(2, s.length() - 16));
        int tail = row.length() - 1 - random.nextInt(Math.min(row.length(), random.nextBoolean() ? 30 : 9999));
        row.setCharAt(tail, (char) (random.nextBoolean() ? random.nextInt(256) : row.charAt(tail) ^ 1 << random.nextInt(8)));
        if (random.nextInt(8) == 0) {
            row.append((char) random.nextInt(256));
        }
        number(row, Model.sumOf(row.toString()) + (random.nextInt(8) == 0 ? 1 : 0));
        StringBuilder all = new StringBuilder();
        all.append('\0').append((char) (random.nextInt(8) == 0 ? 2 : 1)).append(row);
        number(all, Model.sumOf(all.toString()) + (random.nextInt(8) == 0 ? 1 : 0));
        call("cut", 0);
        type(all.toString());
        call("bring");
        call("rows");
        call("load", model.rows() - 1);
    }

    private static void number(StringBuilder s, long w) {
        for (int i = 7; i >= 0; i--) {
            s.append((char) (w >> 8 * i & 255));
        }
    }

    private void type(String s) throws Exception {
        for (int i = 0; i < s.length(); i += 8) {
            int n = Math.min(8, s.length() - i);
            long w = random.nextLong();
            for (int j = 0; j < n; j++) {
                w = w << 8 | s.charAt(i + j);
            }
            call("type", w, n);
        }
        log.add("  typed: " + s.replace("\n", "\\n"));
    }

    private void randomCall() throws Exception {
        String[] words = CALLS[random.nextInt(CALLS.length)].split(" ");
        Object[] args = new Object[words.length - 1];
        for (int i = 1; i < words.length; i++) {
            args[i - 1] = anyOf(words[i]);
        }
        call(words[0], args);
        if (random.nextInt(3) == 0) {
            call("above");
            call("below");
            for (int v = 0; v < 4; v++) {
                call("value", number, v);
            }
        }
    }

    private Object anyOf(String sort) {
        boolean odd = random.nextInt(30) == 0;
        switch (sort) {
            case "p":
                return odd ? random.nextInt(7) - 2 : number;
            case "v":
                return odd ? random.nextInt(20) - 3 : random.nextInt(text.vars.size());
            case "r":
            case "k":
                return odd ? random.nextInt(40) - 3 : random.nextInt(4);
            case "f":
            case "a":
            case "u":
                return odd ? random.nextInt(20) - 3 : random.nextInt(2);
            case "x":
                return odd ? random.nextInt() : random.nextInt(8) - 2;
            case "i":
                return random.nextInt(20) - 1;
            case "is":
                return random.nextBoolean();
            case "level":
            case "how":
                return random.nextInt(odd ? 9 : 4) - (odd ? 3 : 0);
            case "kind":
                return random.nextInt(6) - 1;
            case "few":
                return random.nextInt(4);
            case "what":
                return random.nextInt(12) - 1;
            case "set":
                return odd ? random.nextInt() : random.nextInt(64);
            case "odds":
                return odd ? random.nextInt(110) - 5 : 1 + random.nextInt(5);
            case "small":
                return random.nextInt(9) - 2;
            case "value":
                return odd ? random.nextInt() : random.nextInt(20100) - 10050;
            case "cost":
                return odd ? random.nextInt(2000) - 500 : random.nextInt(4);
            case "span":
                return odd ? random.nextInt(30000) - 9000 : 1 + random.nextInt(random.nextBoolean() ? 4 : 30);
            case "seed":
                return random.nextInt();
            case "steps":
                return odd ? random.nextInt(4000) - 1000 : random.nextInt(30);
            case "byte":
                return random.nextInt();
            case "place":
                return random.nextInt(odd ? 30000 : 300) - 2;
            default:
                return random.nextInt(odd ? 30000 : 300) - 5;
        }
    }

    private long call(String name, Object... args) throws Exception {
        if (wrong) {
            return 0;
        }
        long due = answer(model, name, args);
        long got;
        try {
            got = answer(house, name, args);
        } catch (Exception e) {
            log.add(name + Arrays.toString(args) + " threw " + e.getCause() + " for " + due);
            e.getCause().printStackTrace(System.out);
            wrong = true;
            return 0;
        }
        log.add(name + Arrays.toString(args) + " -> " + got + (got == due ? "" : " but due is " + due));
        wrong = got != due;
        return due;
    }

    private static long answer(Object of, String name, Object[] args) throws Exception {
        for (Method m : of.getClass().getDeclaredMethods()) {
            if (m.getName().equals(name) && m.getParameterCount() == args.length) {
                m.setAccessible(true);
                Object x = m.invoke(of, args);
                return x instanceof Boolean ? (Boolean) x ? 1 : 0 : ((Number) x).longValue();
            }
        }
        throw new IllegalStateException(name);
    }

    /** Writes texts of problems, and of proofs for them. */
    static final class Text {
        private final Random random;
        private final List<String> facts = new ArrayList<>();
        final List<String> vars = new ArrayList<>();
        private final List<Integer> sizes = new ArrayList<>();
        private final List<String> rules = new ArrayList<>();
        final List<String> names = new ArrayList<>();
        private int plans = 1;

        Text(Random random) {
            this.random = random;
            names.add("zz");
            vars.add("zz");
        }

        private int below(int n) {
            return random.nextInt(n);
        }

        private String name(List<String> into) {
            String[] words = {"a", "b", "c", "x", "y", "abcdefgh", "A1", "Fact", "vars", "inn", "B", "q2w", "minx", "k"};
            String s = words[below(words.length)];
            while (names.contains(s)) {
                s = s.substring(0, Math.min(5, s.length())) + below(1000);
            }
            names.add(s);
            into.add(s);
            return s;
        }

        String write() {
            vars.clear();
            names.clear();
            StringBuilder s = new StringBuilder();
            int n = below(12) == 0 ? 5 + below(8) : 1 + below(4);
            int most = below(10) == 0 ? 2000 : 150;
            List<String> parts = new ArrayList<>();
            for (int i = 0; i < n; i++) {
                if (below(3) > 0) {
                    parts.add("fact " + name(facts) + " = " + integer(6));
                }
                parts.add(var(most));
            }
            int many = below(7);
            int hard = below(4);
            for (int i = 0; i < many; i++) {
                int level = below(4) >= hard ? 1 + below(2) : 0;
                String test = test(2);
                parts.add("rule " + name(rules) + " at " + level + " * " + (1 + below(4)) + " : " + test);
            }
            many = below(4);
            for (int i = 0; i < many; i++) {
                String sum = sum(2);
                parts.add("aim " + name(new ArrayList<>()) + " at " + (1 + below(2)) + " : " + sum);
            }
            for (String part : parts) {
                s.append(blanks(part)).append(";").append(below(6) == 0 ? "% a ; remark\n" : "");
            }
            return s.toString();
        }

        /** With other blanks, or with none where none is needed. */
        private String blanks(String s) {
            switch (below(4)) {
                case 0:
                    return s.replaceAll(" ?([^A-Za-z0-9 ]+) ?", "$1");
                case 1:
                    return "\n\t" + s.replace(" ", "  \r\n") + " ";
                default:
                    return s;
            }
        }

        private String integer(int n) {
            return (below(5) == 0 ? "- " : "") + below(n);
        }

        private String var(int most) {
            int size = below(20) == 0 ? 15 + below(6) : 1 + below(5);
            if (plans * size > most) {
                size = 1;
            }
            String range;
            if (below(3) > 0) {
                int low = below(4) - 1;
                range = (low < 0 ? "- 1" : "" + low) + " .. " + (low + size - 1 < 0 ? "- 1" : "" + (low + size - 1));
            } else {
                List<Integer> values = new ArrayList<>();
                while (values.size() < size) {
                    int x = below(size > 8 ? 190 : 9) - (size > 8 ? 95 : 2);
                    if (!values.contains(x)) {
                        values.add(x);
                    }
                }
                StringBuilder s = new StringBuilder();
                for (int x : values) {
                    s.append(s.length() == 0 ? "{ " : " , ").append(x < 0 ? "- " + -x : "" + x);
                }
                range = s + " }";
            }
            plans *= size;
            String s = "var " + name(vars) + " in " + range;
            sizes.add(size);
            return s;
        }

        private String anyVar() {
            return vars.get(below(vars.size()));
        }

        private String varList(int n) {
            StringBuilder s = new StringBuilder(anyVar());
            for (int i = 1; i < n; i++) {
                s.append(" , ").append(anyVar());
            }
            return s.toString();
        }

        private String items(int n, String shape) {
            StringBuilder s = new StringBuilder();
            for (int i = 0; i < n; i++) {
                s.append(i > 0 ? " , ( " : "( ");
                for (int j = 0; j < shape.length(); j++) {
                    char c = shape.charAt(j);
                    s.append(j > 0 ? " , " : "");
                    s.append(c == 'V' ? anyVar() : c == 'I' ? integer(5) : "" + below(c == 'S' ? 3 : 4));
                }
                s.append(" )");
            }
            return s.toString();
        }

        private String test(int depth) {
            if (depth == 0 || below(3) == 0) {
                return unit(depth);
            }
            String[] joints = {" & ", " | ", " -> "};
            return below(4) == 0 ? unit(depth) + joints[below(3)] + unit(depth) + joints[below(3)] + unit(depth)
                : unit(depth) + joints[below(3)] + unit(depth);
        }

        private String unit(int depth) {
            int n = 1 + below(4);
            switch (below(16)) {
                case 0:
                    return "all ( " + varList(n) + " )";
                case 1:
                    return "row ( " + varList(n) + " : " + items(1 + below(4), "I".repeat(n)) + " )";
                case 2:
                    return "lex ( " + varList(n) + " : " + varList(n) + " )";
                case 3:
                    return "ring ( " + varList(n) + " )";
                case 4:
                    return "auto ( " + varList(n) + " : " + items(1 + below(12), "SIS") + " : " + below(3) + " , " + below(3) + " )";
                case 5:
                    return "busy ( " + below(5) + " : " + items(1 + below(5), "VNN") + " )";
                case 6:
                    return "apart ( " + items(1 + below(5), "VVNN") + " )";
                case 7:
                    return "~ " + unit(Math.max(0, depth - 1));
                case 8:
                    return depth == 0 ? "1 = 1" : "{ " + test(depth - 1) + " }";
                default:
                    String[] signs = {" = ", " # ", " < ", " <= ", " > ", " >= "};
                    return sum(depth) + signs[below(6)] + sum(depth);
            }
        }

        private String sum(int depth) {
            StringBuilder s = new StringBuilder(factor(depth));
            String[] joints = {" + ", " - ", " * "};
            for (int i = below(3); i > 0; i--) {
                s.append(joints[below(3)]).append(factor(depth));
            }
            return s.toString();
        }

        private String factor(int depth) {
            int kind = below(depth > 0 ? 14 : 8);
            switch (kind) {
                case 0:
                    return "" + below(6);
                case 1:
                    return facts.isEmpty() ? anyVar() : facts.get(below(facts.size()));
                case 2:
                    return below(6) == 0 ? "9999 * 9999" : anyVar();
                case 8:
                    return "( " + sum(depth - 1) + " )";
                case 9:
                    return "abs ( " + sum(depth - 1) + " )";
                case 10:
                    return (below(2) == 0 ? "min" : "max") + " ( " + sum(depth - 1) + " , " + sum(depth - 1) + " )";
                case 11:
                    return "pick ( " + sum(depth - 1) + " : " + integer(9) + " , " + integer(9) + " )";
                case 12:
                    return "[ " + test(depth - 1) + " ]";
                case 13:
                    return "- " + factor(depth - 1);
                default:
                    return anyVar();
            }
        }

        String proof(int kind) {
            return tree(new ArrayList<>(vars), kind);
        }

        private String tree(List<String> open, int kind) {
            int leaf = below(6);
            if (open.isEmpty() || leaf == 0) {
                String[] leaves = {".", "<", "< ", " .", rules.isEmpty() ? "." : "!" + rules.get(below(rules.size()))};
                return leaves[open.isEmpty() && kind == 1 ? 0 : below(leaves.length)];
            }
            String v = open.get(kind == 1 ? 0 : below(open.size()));
            if (sizes.size() != vars.size()) {
                return v;
            }
            List<String> rest = new ArrayList<>(open);
            rest.remove(v);
            StringBuilder s = new StringBuilder(v).append(" (");
            for (int k = 0; k < sizes.get(vars.indexOf(v)); k++) {
                s.append(k > 0 ? ", " : "").append(tree(rest, kind));
            }
            return s.append(")").toString();
        }
    }
}
