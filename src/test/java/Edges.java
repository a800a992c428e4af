import java.lang.reflect.InvocationTargetException;
import java.lang.reflect.Method;
import java.util.HashMap;
import java.util.Map;
import java.util.TreeSet;

/**
 * What the tests of edges share: the sentence of the document that is tried, calls that are told as texts, and houses
 * that are compared with one another. (Nothing is promised behind the 512th call of an object; the class has no such
 * end, and some of these tests use that to look at each byte.)
 */
final class Edges {
    static final long NO = PlanningHouse.NO;
    static final int NONE = PlanningHouse.NONE;
    static final int FULL = PlanningHouse.FULL;
    static final int NUMBERS = 4;

    /** Makes a new house that is always in the same state. */
    interface Maker {
        PlanningHouse make();
    }

    private static final Map<String, Method> FACE = new HashMap<>();
    private static final TreeSet<Integer> promises = new TreeSet<>();
    private static String heading = "";
    private static int wrong = 0;
    private static int tried = 0;

    private Edges() {
    }

    // ---- which sentence is tried

    static void terms(String sentence) {
        heading = "Terms: " + sentence;
    }

    static void promise(int n, String sentence) {
        heading = "promise " + n + ": " + sentence;
        promises.add(n);
    }

    static boolean isNamed(int n) {
        return promises.contains(n);
    }

    static int wrongAnswers() {
        return wrong;
    }

    static int triedAnswers() {
        return tried;
    }

    static void due(String what, long got, long want) {
        tried++;
        if (got != want) {
            wrong++;
            System.out.println(heading + ": " + what + " answered " + got + ", due is " + want);
        }
    }

    static void same(String what, String got, String want) {
        tried++;
        if (!got.equals(want)) {
            wrong++;
            System.out.println(heading + ": " + what + " left\n  " + got + "\n  and not\n  " + want);
        }
    }

    // ---- calls as texts, like has(0, 1, MAX, true); a boolean counts 1 or 0

    static void due(Object x, String call, long want) {
        due(call, ask(x, call), want);
    }

    /** The answer of a house, or of anything else that has calls of these names. */
    static long ask(Object x, String call) {
        int open = call.indexOf('(');
        Method m = method(x.getClass(), call.substring(0, open));
        String inside = call.substring(open + 1, call.length() - 1).trim();
        String[] words = inside.isEmpty() ? new String[0] : inside.split(" *, *");
        Class<?>[] types = m.getParameterTypes();
        if (words.length != types.length) {
            throw new IllegalStateException(call);
        }
        Object[] args = new Object[words.length];
        for (int i = 0; i < args.length; i++) {
            args[i] = argument(words[i], types[i]);
        }
        try {
            Object answer = m.invoke(x, args);
            return answer instanceof Boolean ? (Boolean) answer ? 1 : 0 : ((Number) answer).longValue();
        } catch (IllegalAccessException e) {
            throw new IllegalStateException(call, e);
        } catch (InvocationTargetException e) {
            System.out.println(heading + ": " + call + " threw " + e.getCause());
            wrong++;
            return Long.MAX_VALUE;
        }
    }

    private static Method method(Class<?> of, String name) {
        String key = of.getName() + "." + name;
        for (Method m : FACE.containsKey(key) ? new Method[0] : of.getDeclaredMethods()) {
            if (m.getName().equals(name)) {
                m.setAccessible(true);
                FACE.put(key, m);
            }
        }
        if (!FACE.containsKey(key)) {
            throw new IllegalStateException(key);
        }
        return FACE.get(key);
    }

    private static Object argument(String word, Class<?> type) {
        if (type == boolean.class) {
            return word.equals("true");
        }
        long x = word.equals("MIN") ? Integer.MIN_VALUE : word.equals("MAX") ? Integer.MAX_VALUE : Long.parseLong(word);
        return type == long.class ? (Object) x : (Object) (int) x;
    }

    // ---- texts

    static void type(Object x, String s) {
        for (int i = 0; i < s.length(); i += 8) {
            int n = Math.min(8, s.length() - i);
            long w = 0;
            for (int j = 0; j < n; j++) {
                w = w << 8 | s.charAt(i + j);
            }
            ask(x, "type(" + w + ", " + n + ")");
        }
    }

    static int read(PlanningHouse x, String text) {
        x.cut(0);
        type(x, text);
        return x.problem();
    }

    static PlanningHouse with(String text) {
        PlanningHouse x = new PlanningHouse();
        due("problem() of " + text, read(x, text), 0);
        return x;
    }

    static void right(String text) {
        due("fault() of " + shortened(text), with(text).fault(), 0);
    }

    static void fault(int code, int place, String text) {
        PlanningHouse x = new PlanningHouse();
        due("problem() of " + shortened(text), read(x, text), -1 - place);
        due("fault() of " + shortened(text), x.fault(), code);
        due("the tape behind " + shortened(text), x.cut(0), 0);
        due("no problem by " + shortened(text), x.count(0, 0), NONE);
    }

    /** A text with a fault where the mark ^ stands, which is no part of it. */
    static void fault(int code, String marked) {
        int place = marked.indexOf('^');
        fault(code, place, marked.substring(0, place) + marked.substring(place + 1));
    }

    private static String shortened(String text) {
        return text.length() < 200 ? text : text.substring(0, 90) + " .. " + text.substring(text.length() - 90);
    }

    static String repeat(String s, int n, String between) {
        StringBuilder all = new StringBuilder();
        for (int i = 0; i < n; i++) {
            all.append(i > 0 ? between : "").append(s);
        }
        return all.toString();
    }

    static void put(PlanningHouse x, int... values) {
        for (int v = 0; v < values.length; v++) {
            due("put(0, " + v + ", " + values[v] + ")", x.put(0, v, values[v]) ? 1 : 0, 1);
        }
    }

    static void plan(PlanningHouse x, int p, int... values) {
        for (int v = 0; v < values.length; v++) {
            due("value(" + p + ", " + v + ")", x.value(p, v), values[v]);
        }
    }

    static void board(PlanningHouse x, long above, long below) {
        due("above()", x.above(), above);
        due("below()", x.below(), below);
    }

    // ---- what stays as it was

    /** That a call answers so, and that all is as if it had not been made. */
    static void refused(Maker maker, String call, long answer) {
        PlanningHouse x = maker.make();
        due(x, call, answer);
        same(call, witness(x), witness(maker.make()));
    }

    static void refused(Maker maker, long answer, String... calls) {
        for (String call : calls) {
            refused(maker, call, answer);
        }
    }

    /** All that can be asked of a house; it is of no use behind that. */
    static String witness(PlanningHouse x) {
        StringBuilder s = new StringBuilder("tape");
        for (int i = 0; x.tapeAt(i) != NONE; i++) {
            s.append(' ').append(x.tapeAt(i));
        }
        s.append(" fault ").append(x.fault()).append(" board ").append(x.above()).append('/').append(x.below());
        s.append(" searched ").append(x.searched(0)).append(' ').append(x.searched(1)).append(' ').append(x.searched(2));
        for (int p = 0; p < NUMBERS; p++) {
            tellProblem(s, x, p);
        }
        s.append(" store ").append(x.rows());
        tellStore(s, x, 0);
        s.append(" behind a crash ").append(x.crash(0));
        for (int p = 0; p < NUMBERS; p++) {
            int from = x.size();
            s.append(" row ").append(x.save(p));
            tellStore(s, x, from);
        }
        return s.toString();
    }

    private static void tellProblem(StringBuilder s, PlanningHouse x, int p) {
        s.append(" problem ").append(p);
        for (int what = 0; what < 9; what++) {
            s.append(' ').append(x.count(p, what));
        }
        for (int v = 0; v < x.count(p, 1); v++) {
            s.append(" v").append(x.value(p, v));
        }
        for (int level = 0; level < 3 && x.count(p, 7) > 0; level++) {
            s.append(" expected ").append(x.expected(p, level)).append(" of ").append(x.below());
        }
    }

    private static void tellStore(StringBuilder s, PlanningHouse x, int from) {
        for (int i = from; i < x.size(); i++) {
            s.append(' ').append(x.byteAt(i));
        }
    }
}
