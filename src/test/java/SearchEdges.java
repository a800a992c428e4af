import java.util.ArrayList;
import java.util.Arrays;
import java.util.List;

/** Edges of SEARCHES in "Terms", and of promises 53 and 54. */
final class SearchEdges {
    // c has one value; 7 is in no other range than that of b, and -1 in none but that of e.
    private static final String MIXED = "fact f = 9; var a in 0..4; var b in {3, 0, 7}; var c in {2}; var d in 0..4; "
        + "var e in -1..1; rule r at 0*2: a # d; rule s at 1*3: a + b + d = f; rule t at 2*1: b < e + 3; "
        + "aim m at 2: a * d - e; aim n at 1: abs(a - b);";
    private static final String FINE = "var a in 0..3; var b in 0..3; var c in 0..2; "
        + "aim m at 2: pick(a : 3, 1, 2, 5) + pick(b : 0, 4, 2, 3) + 2 * c;";
    private static final String COARSE = "var a in 0..3; var b in 0..3; rule r at 0*1: a + b < 2; rule s at 1*1: a = b + 1; "
        + "aim m at 2: 100 * a - 99 * b;";
    private static final int[] SEEDS = {0, 1, -1, 77, 20261116, Integer.MAX_VALUE, Integer.MIN_VALUE, -1013904223};

    private SearchEdges() {
    }

    static void run() {
        walks();
        manySeeds();
        worths();
        againAndAgain();
        lengths();
        noneFree();
        refusals();
        latest();
    }

    /** A search as the document tells it; a house of its own scores its plans. */
    private static final class Walk {
        private final PlanningHouse scorer;
        private final int[][] ranges;
        private final List<Integer> free = new ArrayList<>();
        private int[] current;
        private int[] kept;
        private int z;
        private int taken;
        private int trace = 1;
        private int keptStep = Edges.NONE;
        private final int[] changedAt;
        private final List<long[]> entries = new ArrayList<>();

        Walk(String text, int[] start, int pins, int seed) {
            scorer = Edges.with(text);
            ranges = new int[scorer.count(0, 1)][];
            changedAt = new int[ranges.length];
            Arrays.fill(changedAt, -1000000);
            for (int v = 0; v < ranges.length; v++) {
                int n = 0;
                while (scorer.range(0, v, n) != Edges.NO) {
                    n++;
                }
                ranges[v] = new int[n];
                for (int k = 0; k < n; k++) {
                    ranges[v][k] = (int) scorer.range(0, v, k);
                }
                if (n > 1 && (pins >> v & 1) == 0) {
                    free.add(v);
                }
            }
            current = start.clone();
            kept = start.clone();
            z = seed;
        }

        private long[] score(int[] plan) {
            for (int v = 0; v < plan.length; v++) {
                scorer.put(0, v, plan[v]);
            }
            return new long[] {scorer.score(0, 0), scorer.score(0, 1), scorer.score(0, 2)};
        }

        private static boolean better(long[] a, long[] b) {
            return Arrays.compare(a, b) < 0;
        }

        private int draw(int n) {
            z = z * 1664525 + 1013904223;
            return (z >>> 8) % n;
        }

        private static int placeOf(int value, int[] range) {
            for (int k = 0; k < range.length; k++) {
                if (range[k] == value) {
                    return k;
                }
            }
            return -1;
        }

        void go(int how, int length, int steps) {
            for (int i = 0; i < length && how == 1; i++) {
                entries.add(score(current));
            }
            for (int s = 0; s < steps && !free.isEmpty(); s++) {
                step(how, length, steps, s);
            }
        }

        private void step(int how, int length, int steps, int s) {
            int k = draw(4);
            int[] next = current.clone();
            int one = free.get(draw(free.size()));
            int other = one;
            if (k < 3) {
                int place = draw(ranges[one].length - 1);
                place += place < placeOf(current[one], ranges[one]) ? 0 : 1;
                next[one] = ranges[one][place];
            } else {
                other = free.get(draw(free.size()));
                next[one] = current[other];
                next[other] = current[one];
                if (one == other || placeOf(next[one], ranges[one]) < 0 || placeOf(next[other], ranges[other]) < 0) {
                    return;
                }
            }
            if (take(how, length, steps, s, next, one, other)) {
                current = next;
                taken++;
                trace = 31 * trace + k;
                changedAt[one] = s;
                changedAt[other] = s;
                if (better(score(current), score(kept))) {
                    kept = current.clone();
                    keptStep = s;
                }
            }
            if (how == 1) {
                entries.set(s % length, score(current));
            }
        }

        private boolean take(int how, int length, int steps, int s, int[] next, int one, int other) {
            long[] is = score(current);
            long[] would = score(next);
            boolean good = !better(is, would);
            switch (how) {
                case 0:
                    return good;
                case 1:
                    return good || !better(entries.get(s % length), would);
                case 2:
                    boolean may = s > changedAt[one] + length && s > changedAt[other] + length;
                    return (may || better(would, score(kept))) && (good || draw(8) == 0);
                default:
                    long more = 10000 * (would[0] - is[0]) + 100 * (would[1] - is[1]) + would[2] - is[2];
                    return more <= length - length * s / steps;
            }
        }
    }

    private static void walk(String text, int pins, int how, int length, int seed, int steps, int... start) {
        PlanningHouse x = Edges.with(text);
        Edges.put(x, start);
        for (int v = 0; v < start.length; v++) {
            if ((pins >> v & 1) != 0) {
                x.pin(0, v, true);
            }
        }
        Walk walk = new Walk(text, start, pins, seed);
        walk.go(how, length, steps);
        String call = "search(0, " + how + ", " + length + ", " + seed + ", " + steps + ")";
        Edges.due(x, call, walk.taken);
        Edges.due(call + " and searched(0)", x.searched(0), walk.trace);
        Edges.due(call + " and searched(1)", x.searched(1), walk.z);
        Edges.due(call + " and searched(2)", x.searched(2), walk.keptStep);
        Edges.plan(x, 0, walk.kept);
    }

    private static void walks() {
        int[] steps = {0, 1, 2, 3, 50};
        for (int seed : SEEDS) {
            for (int n : steps) {
                Edges.terms("a search takes by HOW 0 if the current one is not better, and z wraps");
                walk(MIXED, 0, 0, 1, seed, n, 4, 7, 2, 4, -1);
                walk(MIXED, 1 << 4 | 1 << 1, 0, 1, seed, n, 4, 7, 2, 4, -1);
                Edges.terms("HOW 1: entry s modulo LENGTH of a row of scores");
                walk(MIXED, 0, 1, 3, seed, n, 4, 7, 2, 4, -1);
                walk(FINE, 0, 1, 2, seed, n, 0, 0, 0);
                Edges.terms("HOW 2: a var may not change in the LENGTH steps behind one that changed it");
                walk(MIXED, 0, 2, 2, seed, n, 4, 7, 2, 4, -1);
                walk(FINE, 0, 2, 1, seed, n, 3, 3, 2);
                walk(FINE, 2, 2, 3, seed, n, 3, 3, 2);
                Edges.terms("HOW 3: WORTH is not more than LENGTH less LENGTH * s / steps above");
                walk(MIXED, 0, 3, 700, seed, n, 4, 7, 2, 4, -1);
                walk(FINE, 0, 3, 5, seed, n, 1, 0, 0);
                walk(COARSE, 0, 3, 9999, seed, n, 0, 0);
                walk(COARSE, 0, 3, 10000, seed, n, 0, 0);
            }
        }
        Edges.terms("FREE are the vars that are not pinned and whose range has two values or more");
        walk("var a in 0..1; var b in {5}; aim m at 1: a;", 0, 0, 1, 3, 20, 1, 5);
        walk("var a in 0..1; var b in 0..1; var c in 0..1; aim m at 1: a - b;", 5, 0, 1, 3, 20, 1, 0, 1);
        walk("var a in {1, 0}; var b in {0, 1}; var c in {0, 1}; aim m at 1: a - b - c;", 0, 0, 1, 8, 40, 1, 0, 0);
        Edges.promise(53, "steps are 0 .. 2000");
        for (int n : new int[] {0, 1, 1999, 2000}) {
            walk(FINE, 0, 0, 1, 5, n, 0, 0, 0);
            walk(FINE, 0, 3, 10000, 5, n, 0, 0, 0);
        }
    }

    private static void manySeeds() {
        for (int seed = 0; seed < 120; seed++) {
            Edges.terms("HOW 1: the entry is the score of the plan that is current then, not in a step that ended at k 3");
            walk(FINE, 0, 1, 1 + seed % 4, seed * 7919, 14, 3, 1, 2);
            walk(MIXED, 0, 1, 1 + seed % 3, seed * 7919, 14, 4, 7, 2, 4, -1);
            Edges.terms("HOW 2: s + 1 to s + LENGTH; but it may, if the new plan is better than the kept one");
            walk(FINE, 0, 2, 1 + seed % 4, seed * 7919, 14, 3, 1, 2);
            walk(MIXED, 0, 2, 1 + seed % 3, seed * 7919, 14, 4, 7, 2, 4, -1);
            Edges.terms("HOW 3: LENGTH less LENGTH * s / steps, cut down");
            walk(FINE, 0, 3, 1 + seed % 6, seed * 7919, 14, 3, 1, 2);
            walk(COARSE, 0, 3, 90 + seed, seed * 7919, 14, 1, 0);
        }
    }

    /** One step from a = 0 can only lead to a = 1; it is taken or not by what it adds to the WORTH. */
    private static void worth(boolean taken, int length, String rules) {
        String text = "var a in 0..1; " + rules;
        for (int seed : SEEDS) {
            walk(text, 0, 3, length, seed, 1, 0);
        }
        PlanningHouse x = Edges.with(text);
        Edges.due("search(0, 3, " + length + ", 1, 1) with " + rules, x.search(0, 3, length, 1, 1), taken ? 1 : 0);
    }

    private static void worths() {
        Edges.terms("WORTH is 10000 times the score at level 0, 100 times that at 1, and that at 2, together");
        worth(true, 10000, "rule r at 0*1: a = 0;");
        worth(false, 9999, "rule r at 0*1: a = 0;");
        worth(false, 10000, "rule r at 0*1: a = 0; aim m at 2: a;");
        worth(true, 9999, "rule r at 0*1: a = 0; aim m at 2: - a;");
        worth(false, 9998, "rule r at 0*1: a = 0; aim m at 2: - a;");
        worth(true, 9900, "rule r at 0*1: a = 0; aim m at 1: - a;");
        worth(false, 9899, "rule r at 0*1: a = 0; aim m at 1: - a;");
        worth(true, 100, "aim m at 1: a;");
        worth(false, 99, "aim m at 1: a;");
        worth(true, 99, "aim m at 1: a; aim n at 2: - a;");
        worth(true, 1, "aim m at 2: a;");
        worth(false, 1, "aim m at 2: 2 * a;");
        worth(true, 1, "aim m at 1: a; aim n at 2: -99 * a;");
        worth(true, 10000, "aim m at 2: 1000 * 10 * a;");
        worth(false, 10000, "aim m at 2: (1000 * 10 + 1) * a;");
    }

    private static void againAndAgain() {
        Edges.promise(53, "a search has nothing of the one before but the plan at hand");
        for (int how = 0; how <= 3; how++) {
            PlanningHouse x = Edges.with(MIXED);
            int[] start = {4, 7, 2, 4, -1};
            Edges.put(x, start);
            for (int round = 0; round < 12; round++) {
                int length = 1 + round % 4;
                Walk walk = new Walk(MIXED, start, 0, 1000 * round + how);
                walk.go(how, length, 9);
                Edges.due(x, "search(0, " + how + ", " + length + ", " + (1000 * round + how) + ", 9)", walk.taken);
                Edges.due(x, "searched(0)", walk.trace);
                Edges.due(x, "searched(1)", walk.z);
                Edges.due(x, "searched(2)", walk.keptStep);
                Edges.plan(x, 0, walk.kept);
                start = round % 3 == 0 ? new int[] {round % 5, 0, 2, 4, 1} : walk.kept.clone();
                Edges.put(x, start);
            }
        }
    }

    private static void lengths() {
        int[][] lengths = {{Integer.MIN_VALUE, -1, 0, 1, Integer.MAX_VALUE}, {1, 2, 19, 20}, {1, 2, 99, 100}, {1, 2, 9999,
            10000}};
        for (int how = 0; how <= 3; how++) {
            Edges.promise(53, "a LENGTH that may be, with how " + how);
            for (int length : lengths[how]) {
                walk(MIXED, 0, how, length, 4711, 300, 4, 7, 2, 4, -1);
                walk(FINE, 0, how, length, 4711, 300, 0, 0, 0);
                walk(COARSE, 0, how, length, 4711, 300, 0, 0);
            }
        }
    }

    private static void noneFree() {
        Edges.promise(53, "0, and nothing is drawn, when no var is free (searched() tells 1, the seed and NONE then)");
        PlanningHouse x = Edges.with("var a in {3}; var b in 0..1; rule r at 0*1: b = 1;");
        x.pin(0, 1, true);
        for (int how = 0; how <= 3; how++) {
            for (int steps : new int[] {0, 1, 2000}) {
                Edges.due(x, "search(0, " + how + ", 1, " + (40 + how) + ", " + steps + ")", 0);
                Edges.due(x, "searched(0)", 1);
                Edges.due(x, "searched(1)", 40 + how);
                Edges.due(x, "searched(2)", Edges.NONE);
                Edges.plan(x, 0, 3, 0);
            }
        }
        Edges.promise(53, "NONE is looked at first, also when no var is free");
        Edges.due(x, "search(0, 0, 1, 9, 2001)", Edges.NONE);
        Edges.due(x, "search(0, 4, 1, 9, 1)", Edges.NONE);
        Edges.due(x, "search(0, 1, 21, 9, 1)", Edges.NONE);
        Edges.due(x, "searched(1)", 43);
        Edges.promise(54, "a search of no steps tells 1, the seed and NONE");
        x.pin(0, 1, false);
        Edges.due(x, "search(0, 3, 1, MIN, 0)", 0);
        Edges.due(x, "searched(0)", 1);
        Edges.due(x, "searched(1)", Integer.MIN_VALUE);
        Edges.due(x, "searched(2)", Edges.NONE);
    }

    private static PlanningHouse searchedBefore() {
        PlanningHouse x = Edges.with(MIXED);
        x.search(0, 0, 0, 11, 30);
        x.has(0, 0, 1, false);
        x.save(0);
        Edges.type(x, "a");
        return x;
    }

    private static void refusals() {
        Edges.promise(53, "NONE: steps that are not 0 .. 2000; nothing changes");
        Edges.refused(SearchEdges::searchedBefore, Edges.NONE, "search(0, 0, 1, 5, -1)", "search(0, 0, 1, 5, 2001)",
            "search(0, 1, 1, 5, MAX)", "search(0, 3, 1, 5, MIN)");
        Edges.promise(53, "NONE: how is not 0 .. 3; nothing changes");
        Edges.refused(SearchEdges::searchedBefore, Edges.NONE, "search(0, -1, 1, 5, 9)", "search(0, 4, 1, 5, 9)",
            "search(0, MIN, 1, 5, 9)", "search(0, MAX, 1, 5, 9)");
        Edges.promise(53, "NONE: a LENGTH that may not be; nothing changes");
        String[] tooGreat = {"", "21", "101", "10001"};
        for (int how = 1; how <= 3; how++) {
            for (String length : new String[] {"0", "-1", "MIN", "MAX", tooGreat[how]}) {
                Edges.refused(SearchEdges::searchedBefore, "search(0, " + how + ", " + length + ", 5, 9)", Edges.NONE);
                Edges.refused(SearchEdges::searchedBefore, "search(0, " + how + ", " + length + ", 5, 0)", Edges.NONE);
            }
        }
        Edges.promise(53, "NONE without the problem; nothing changes");
        Edges.refused(SearchEdges::searchedBefore, Edges.NONE, "search(1, 0, 1, 5, 9)", "search(-1, 0, 1, 5, 9)",
            "search(4, 0, 1, 5, 9)", "search(MAX, 0, 1, 5, 0)", "search(MIN, 0, 1, 5, 0)");
        Edges.promise(54, "NONE for others, or before any");
        Edges.refused(SearchEdges::searchedBefore, Edges.NONE, "searched(-1)", "searched(3)", "searched(MIN)",
            "searched(MAX)");
        Edges.refused(() -> Edges.with(MIXED), Edges.NONE, "searched(0)", "searched(1)", "searched(2)", "searched(3)");
    }

    private static void latest() {
        Edges.promise(54, "of the latest search() of any problem that did not answer NONE");
        PlanningHouse x = Edges.with(MIXED);
        Edges.due("problem()", Edges.read(x, "var a in 0..0;"), 1);
        Edges.due(x, "search(1, 0, 0, 5, 1)", 0);
        Edges.due(x, "searched(1)", 5);
        Edges.due(x, "search(0, 0, 0, 6, 0)", 0);
        Edges.due(x, "searched(1)", 6);
        Edges.due(x, "search(0, 9, 0, 7, 0)", Edges.NONE);
        Edges.due(x, "search(2, 0, 0, 7, 0)", Edges.NONE);
        Edges.due(x, "searched(1)", 6);
        Edges.due(x, "drop(0)", 1);
        Edges.due(x, "drop(1)", 1);
        Edges.due(x, "searched(0)", 1);
        Edges.due(x, "searched(1)", 6);
        Edges.due(x, "searched(2)", Edges.NONE);
    }
}
