import java.util.Arrays;

/** A house that plans: problems are read from a tape, their plans are scored, found, proved and stored. */
public final class PlanningHouse {
    public static final int NONE = -1;
    public static final long NO = Long.MIN_VALUE;
    public static final int FULL = -100000;

    private static final int MAX_BYTES = 20000;
    private static final int STORE_BYTES = MAX_BYTES - 10;
    private static final int MAX_PROBLEMS = 4;
    private static final int MAX_FACTS = 16;
    private static final int MAX_VARS = 12;
    private static final int MAX_RULES = 24;
    private static final int MAX_AIMS = 6;
    private static final int MAX_NAMED = MAX_FACTS + MAX_VARS + MAX_RULES + MAX_AIMS;
    private static final int MAX_FORMULAS = MAX_RULES + MAX_AIMS;
    private static final int MAX_HARD = 12;
    private static final int MAX_RANGE = 20;
    private static final int MAX_PLANS = 20000;
    private static final int MAX_WORK = 20000000;
    private static final int MAX_FUTURES = 6;
    private static final int MAX_OPEN = 12;
    private static final int MAX_LISTED = 12;
    private static final int MAX_ITEMS = 40;
    private static final int MAX_STATES = 10;
    private static final int MAX_SUMS = 20;
    private static final int MAX_ROWS = 100;
    private static final int MAX_STEPS = 2000;
    private static final int MAX_COST = 1000;
    private static final int MAX_NUMBER = 9999;
    private static final int MAX_RANGE_NUMBER = 99;
    private static final int HELD = 1000000;
    private static final int LEVELS = 3;
    private static final int ROW_MARK = 211;

    // The four sorts of things that have names, in the order of their numbers in find().
    private static final int FACTS = 0;
    private static final int VARS = 1;
    private static final int RULES = 2;
    private static final int AIMS = 3;
    private static final int SORTS = 4;
    private static final int SORT_STEP = 100;
    private static final int[] SORT_LIMIT = {MAX_FACTS, MAX_VARS, MAX_RULES, MAX_AIMS};
    private static final int[] SORT_BASE = {0, MAX_FACTS, MAX_FACTS + MAX_VARS, MAX_FACTS + MAX_VARS + MAX_RULES};

    // Kinds of tokens: a sign of one byte is its own kind. Formulas use the same numbers as operations.
    private static final int END = -1;
    private static final int BAD = -2;
    private static final int STOPPED = -3;
    private static final int NAME = 256;
    private static final int NUMBER = 257;
    private static final int AT_MOST = 258;
    private static final int AT_LEAST = 259;
    private static final int ARROW = 260;
    private static final int DOTS = 261;
    private static final int NEGATE = 262;
    private static final int FIRST_WORD = 300;
    private static final int FACT = 300;
    private static final int VAR = 301;
    private static final int IN = 302;
    private static final int RULE = 303;
    private static final int AT = 304;
    private static final int AIM = 305;
    private static final int ALL = 306;
    private static final int ROW = 307;
    private static final int LEX = 308;
    private static final int RING = 309;
    private static final int AUTO = 310;
    private static final int BUSY = 311;
    private static final int APART = 312;
    private static final int PICK = 313;
    private static final int ABS = 314;
    private static final int MIN = 315;
    private static final int MAX = 316;
    private static final String SIGNS = ";=#<>+-*()[]{},:&|~!.";

    // The bytes of each word as one number, in the order of the kinds above.
    private static final long[] WORD_KEYS = {
        0x66616374L, 0x766172L, 0x696eL, 0x72756c65L, 0x6174L, 0x61696dL, 0x616c6cL, 0x726f77L, 0x6c6578L,
        0x72696e67L, 0x6175746fL, 0x62757379L, 0x6170617274L, 0x7069636bL, 0x616273L, 0x6d696eL, 0x6d6178L
    };

    private static final int FAULT_BYTE = 1;
    private static final int FAULT_TOKEN = 2;
    private static final int FAULT_TOLD = 3;
    private static final int FAULT_NAME = 4;
    private static final int FAULT_NUMBER = 5;
    private static final int FAULT_LIMIT = 6;
    private static final int FAULT_OPEN = 7;
    private static final int FAULT_TREE = 8;

    private final Row tape = new Row();
    private final Problem[] problems = new Problem[MAX_PROBLEMS];
    private final Problem spare = new Problem();
    private final Tokens tokens = new Tokens(tape);
    private final Reader reader = new Reader(tokens, spare.script);
    private final Trial trial = new Trial(spare);
    private final Judge judge = new Judge(trial, spare);
    private final Clashes clashes = new Clashes(judge);
    private final Search searching = new Search(trial);
    private final Proof proof = new Proof(tokens, trial, spare);
    private final Store store = new Store();
    private int lastFault;
    private long boardAbove;
    private long boardBelow = 1;

    public PlanningHouse() {
    }

    // ---- the tape

    public int type(long w, int n) {
        if (n < 1 || n > 8) {
            return NONE;
        }
        if (tape.length + n > MAX_BYTES) {
            return FULL;
        }
        tape.push(w, n);
        return tape.length;
    }

    public int cut(int n) {
        if (n < 0 || n > tape.length) {
            return NONE;
        }
        int had = tape.length;
        tape.length = n;
        return had;
    }

    public int spoil(int i, int by) {
        if (i < 0 || i >= tape.length) {
            return NONE;
        }
        tape.bytes[i] = (byte) (tape.bytes[i] ^ by);
        return tape.at(i);
    }

    public int tapeAt(int i) {
        return tape.at(i);
    }

    // ---- problems

    public int problem() {
        int p = freeNumber();
        if (p == NONE) {
            return FULL;
        }
        Problem q = slot(p);
        q.script.text.length = 0;
        q.script.text.append(tape, 0, tape.length);
        tape.length = 0;
        boolean right = reader.read(q.script);
        lastFault = tokens.faultCode;
        if (!right) {
            return -1 - tokens.faultPlace;
        }
        q.begin();
        return p;
    }

    public int fault() {
        return lastFault;
    }

    public boolean drop(int p) {
        Problem q = at(p);
        if (q == null) {
            return false;
        }
        q.live = false;
        return true;
    }

    public int count(int p, int what) {
        Problem q = at(p);
        if (q == null) {
            return NONE;
        }
        switch (what) {
            case 0:
            case 1:
            case 2:
            case 3:
                return q.script.counts[what];
            case 4:
                return q.script.plans;
            case 5:
                return q.script.plansOf(q.freeVars());
            case 6:
                return q.script.hardCount;
            case 7:
                return q.futures;
            case 8:
                return q.script.text.length;
            default:
                return NONE;
        }
    }

    public int find(int p) {
        Problem q = at(p);
        if (q == null) {
            return NONE;
        }
        long key = tokens.onlyName(tape);
        return key == 0 ? NONE : q.script.lookUp(key);
    }

    public int letter(int p, int kind, int k, int i) {
        Problem q = at(p);
        if (q == null || !q.script.isTold(kind, k)) {
            return NONE;
        }
        return q.script.nameByte(kind, k, i);
    }

    public int shown(int p, int k, int i) {
        Problem q = at(p);
        if (q == null || k < 0 || k >= q.script.statementCount || i < 0) {
            return NONE;
        }
        return tokens.spaced(q.script.text, q.script.statements[k], i);
    }

    public long range(int p, int v, int k) {
        Problem q = at(p);
        if (!isTold(q, VARS, v) || k < 0 || k >= q.script.sizes[v]) {
            return NO;
        }
        return q.script.valueAt(v, k);
    }

    public int rule(int p, int r, int what) {
        Problem q = at(p);
        if (!isTold(q, RULES, r)) {
            return NONE;
        }
        switch (what) {
            case 0:
                return q.script.levels[r];
            case 1:
                return q.script.weights[r];
            case 2:
                return q.script.masks[r];
            case 3:
                return clashes.isBreakable(q, r) ? 1 : 0;
            default:
                return NONE;
        }
    }

    // ---- plans, facts, pins

    public long fact(int p, int f) {
        Problem q = at(p);
        return isTold(q, FACTS, f) ? q.facts[f] : NO;
    }

    public boolean change(int p, int f, int value) {
        Problem q = at(p);
        if (!isTold(q, FACTS, f) || !isFactValue(value)) {
            return false;
        }
        q.facts[f] = value;
        q.fresh = false;
        return true;
    }

    public long value(int p, int v) {
        Problem q = at(p);
        return isTold(q, VARS, v) ? q.script.valueAt(v, q.places[v]) : NO;
    }

    public boolean put(int p, int v, int value) {
        Problem q = at(p);
        if (!isTold(q, VARS, v)) {
            return false;
        }
        int place = q.script.placeOf(v, value);
        if (place == NONE) {
            return false;
        }
        q.places[v] = place;
        return true;
    }

    public boolean pin(int p, int v, boolean is) {
        Problem q = at(p);
        if (!isTold(q, VARS, v)) {
            return false;
        }
        boolean was = (q.pins >> v & 1) != 0;
        q.pins = is ? q.pins | 1 << v : q.pins & ~(1 << v);
        return was;
    }

    public int weigh(int p, int v, int cost) {
        Problem q = at(p);
        if (!isTold(q, VARS, v) || cost < 0 || cost > MAX_COST) {
            return NONE;
        }
        int was = q.costs[v];
        q.costs[v] = cost;
        return was;
    }

    public int broken(int p, int r) {
        Problem q = at(p);
        if (!isTold(q, RULES, r)) {
            return NONE;
        }
        return judge.atHand(q).run(r);
    }

    public long aim(int p, int a) {
        Problem q = at(p);
        if (!isTold(q, AIMS, a)) {
            return NO;
        }
        return judge.atHand(q).run(MAX_RULES + a);
    }

    public long score(int p, int level) {
        Problem q = at(p);
        if (q == null || !isLevel(level)) {
            return NO;
        }
        return judge.atHand(q).total(level);
    }

    public boolean feasible(int p) {
        Problem q = at(p);
        return q != null && judge.atHand(q).keepsHard();
    }

    // ---- what rules leave

    public int reach(int p) {
        Problem q = at(p);
        return q == null ? NONE : clashes.leave(q);
    }

    public boolean isLeft(int p, int v, int k) {
        Problem q = at(p);
        if (!isTold(q, VARS, v) || k < 0 || k >= q.script.sizes[v]) {
            return false;
        }
        clashes.leave(q);
        return (clashes.left[v] >> k & 1) != 0;
    }

    public int hopeless(int p) {
        Problem q = at(p);
        return q == null ? NONE : clashes.firstHopeless(q);
    }

    // ---- the best

    public int solve(int p) {
        Problem q = at(p);
        if (q == null) {
            return NONE;
        }
        judge.survey(q, q.freeVars(), NONE, NONE);
        return q.adopt(judge.bestIndex) ? 1 : 0;
    }

    public long best(int p, int level) {
        Problem q = at(p);
        if (q == null || !isLevel(level)) {
            return NO;
        }
        judge.survey(q, q.freeVars(), NONE, NONE);
        return judge.bestScore(level);
    }

    public int bests(int p) {
        Problem q = at(p);
        if (q == null) {
            return NONE;
        }
        judge.survey(q, q.freeVars(), NONE, NONE);
        return judge.bestCount;
    }

    public boolean bestAt(int p, int k) {
        Problem q = at(p);
        return q != null && q.adopt(judge.indexOf(q, true, k));
    }

    public int feasibles(int p) {
        Problem q = at(p);
        return q == null ? NONE : judge.countHaving(q, NONE, NONE, false);
    }

    public boolean feasibleAt(int p, int k) {
        Problem q = at(p);
        return q != null && q.adopt(judge.indexOf(q, false, k));
    }

    public int has(int p, int v, int value, boolean best) {
        Problem q = at(p);
        if (!isTold(q, VARS, v)) {
            return NONE;
        }
        int having = judge.countHaving(q, v, q.script.placeOf(v, value), best);
        showFraction(having, judge.chosenCount);
        return having;
    }

    public int choices(int p, int v) {
        Problem q = at(p);
        return isTold(q, VARS, v) ? judge.countChoices(q, v) : NONE;
    }

    public int mend(int p, int set) {
        Problem q = at(p);
        if (q == null) {
            return NONE;
        }
        judge.survey(q, set & q.script.allVars(), NONE, NONE);
        return q.adopt(judge.bestIndex) ? 1 : 0;
    }

    // ---- several aims, near plans

    public int front(int p) {
        Problem q = at(p);
        return q == null ? NONE : judge.countFront(q);
    }

    public long frontAt(int p, int k, int what) {
        Problem q = at(p);
        if (q == null || what < 0 || what > 2 || !judge.findPair(q, k)) {
            return NO;
        }
        return what == 0 ? judge.pairCount : what == 1 ? q.ones[judge.pairPlan] : q.twos[judge.pairPlan];
    }

    public boolean frontPlan(int p, int k) {
        Problem q = at(p);
        return q != null && judge.findPair(q, k) && q.adopt(judge.pairPlan);
    }

    public int near(int p, boolean best) {
        Problem q = at(p);
        return q == null ? NONE : judge.takeNearest(q, best);
    }

    // ---- none, and why

    public int clash(int p) {
        Problem q = at(p);
        return q == null ? NONE : clashes.thinned(q);
    }

    public int fewest(int p) {
        Problem q = at(p);
        return q == null ? NONE : clashes.smallest(q);
    }

    public int relax(int p) {
        Problem q = at(p);
        return q == null ? NONE : clashes.cheapest(q);
    }

    public long without(int p, int r, int level) {
        Problem q = at(p);
        if (!isTold(q, RULES, r) || !isLevel(level)) {
            return NO;
        }
        judge.surveyLacking(q, r);
        return judge.bestScore(level);
    }

    public long whyNot(int p, int v, int value, int level) {
        Problem q = at(p);
        if (!isTold(q, VARS, v) || !isLevel(level)) {
            return NO;
        }
        int place = q.script.placeOf(v, value);
        if (place == NONE) {
            return NO;
        }
        judge.survey(q, q.freeVars(), v, place);
        return judge.bestScore(level);
    }

    public int because(int p, int v, int value) {
        Problem q = at(p);
        if (!isTold(q, VARS, v)) {
            return NONE;
        }
        int place = q.script.placeOf(v, value);
        return place == NONE ? NONE : judge.firstReason(q, v, place);
    }

    // ---- futures

    public int future(int p, int odds) {
        Problem q = at(p);
        if (q == null || odds < 1 || odds > 100) {
            return NONE;
        }
        return q.addFuture(odds);
    }

    public boolean told(int p, int u, int f, int value) {
        Problem q = at(p);
        if (!isTold(q, FACTS, f) || u < 0 || u >= q.futures || !isFactValue(value)) {
            return false;
        }
        q.tell(u, f, value);
        return true;
    }

    public int unfold(int p) {
        Problem q = at(p);
        if (q == null) {
            return NONE;
        }
        int had = q.futures;
        q.futures = 0;
        return had;
    }

    public int robust(int p) {
        Problem q = at(p);
        if (q == null) {
            return NONE;
        }
        return q.adopt(judge.mostRobust(q)) ? 1 : 0;
    }

    public long expected(int p, int level) {
        Problem q = at(p);
        if (q == null || q.futures == 0 || !isLevel(level)) {
            return NO;
        }
        long sum = judge.expectedScore(q, level);
        showFraction(sum, q.allOdds());
        return sum;
    }

    public long regret(int p, int level) {
        Problem q = at(p);
        if (q == null || q.futures == 0 || !isLevel(level)) {
            return NO;
        }
        return judge.greatestRegret(q, level);
    }

    // ---- searches

    public int search(int p, int how, int length, int seed, int steps) {
        Problem q = at(p);
        if (q == null || steps < 0 || steps > MAX_STEPS || !Search.isWay(how, length)) {
            return NONE;
        }
        searching.prepare(q, how, length, seed, steps);
        return searching.go(q);
    }

    public int searched(int what) {
        if (!searching.ran) {
            return NONE;
        }
        switch (what) {
            case 0:
                return searching.trace;
            case 1:
                return searching.z;
            case 2:
                return searching.keptStep;
            default:
                return NONE;
        }
    }

    // ---- proofs

    public int check(int p) {
        Problem q = at(p);
        if (q == null) {
            return FULL;
        }
        boolean right = proof.isRight(q, tape);
        lastFault = tokens.faultCode;
        return right ? 0 : -1 - tokens.faultPlace;
    }

    public int prove(int p) {
        Problem q = at(p);
        if (q == null || judge.isBeaten(q) || Proof.lengthFor(q) > MAX_BYTES) {
            return NONE;
        }
        tape.length = 0;
        Proof.write(q, tape, 0);
        return tape.length;
    }

    // ---- above, below

    public long above() {
        return boardAbove;
    }

    public long below() {
        return boardBelow;
    }

    // ---- the store

    public int save(int p) {
        Problem q = at(p);
        return q == null ? NONE : store.add(q);
    }

    public int load(int k) {
        if (k < 0 || k >= store.rowCount) {
            return NONE;
        }
        int p = freeNumber();
        if (p == NONE) {
            return FULL;
        }
        Problem q = slot(p);
        int start = store.startOf(k);
        int end = store.ends[k];
        boolean right = Store.readText(store.bytes, start, end, q) && reader.read(q.script);
        q.live = right && Store.readState(store.bytes, start, end, q) != NONE;
        return q.live ? p : NONE;
    }

    public int rows() {
        return store.rowCount;
    }

    public int size() {
        return store.bytes.length;
    }

    public int byteAt(int i) {
        return store.bytes.at(i);
    }

    public int crash(int n) {
        if (n < 0) {
            return NONE;
        }
        store.loseBehind(n);
        return store.rowCount;
    }

    public int take() {
        tape.length = 0;
        tape.push(store.rowCount, 2);
        tape.append(store.bytes, 0, store.bytes.length);
        tape.push(tape.sumOf(0, tape.length), 8);
        return tape.length;
    }

    public int bring() {
        int end = tape.length - 8;
        if (end < 2 || tape.read(end, 8) != tape.sumOf(0, end)) {
            return NONE;
        }
        int many = (int) tape.read(0, 2);
        int place = 2;
        for (int k = 0; k < many && place != NONE; k++) {
            boolean right = Store.readText(tape, place, end, spare) && reader.read(spare.script);
            place = right ? Store.readState(tape, place, end, spare) : NONE;
            store.noteIncoming(k, place);
        }
        if (place != end) {
            return NONE;
        }
        if (!store.hasRoom(many, end - 2)) {
            return FULL;
        }
        store.addIncoming(tape, 2, many);
        tape.length = 0;
        return many;
    }

    // ---- what the calls above share

    private Problem at(int p) {
        if (p < 0 || p >= MAX_PROBLEMS) {
            return null;
        }
        Problem q = problems[p];
        return q != null && q.live ? q : null;
    }

    private int freeNumber() {
        for (int p = 0; p < MAX_PROBLEMS; p++) {
            if (at(p) == null) {
                return p;
            }
        }
        return NONE;
    }

    /** The object of a number is used again by each problem that gets the number, for its arrays' sake. */
    private Problem slot(int p) {
        Problem q = problems[p];
        if (q == null) {
            q = new Problem();
            problems[p] = q;
        }
        return q;
    }

    private void showFraction(long over, long under) {
        long a = Math.abs(over);
        long b = under;
        for (int i = 0; i < 1000 && b != 0; i++) {
            long rest = a % b;
            a = b;
            b = rest;
        }
        boolean none = under <= 0 || a == 0;
        boardAbove = none ? 0 : over / a;
        boardBelow = none ? 1 : under / a;
    }

    private static boolean isTold(Problem q, int sort, int k) {
        return q != null && q.script.isTold(sort, k);
    }

    private static boolean isLevel(int level) {
        return level >= 0 && level < LEVELS;
    }

    private static boolean isFactValue(int value) {
        return value >= -MAX_NUMBER && value <= MAX_NUMBER;
    }

    /** Bytes, one behind the other; there is room for at most MAX_BYTES. */
    private static final class Row {
        private byte[] bytes = new byte[64];
        private int length;

        private int at(int i) {
            return i < 0 || i >= length ? NONE : bytes[i] & 255;
        }

        private void makeRoom(int needed) {
            if (needed > bytes.length) {
                bytes = Arrays.copyOf(bytes, Math.max(needed, Math.min(MAX_BYTES, 2 * bytes.length)));
            }
        }

        private void push(long w, int n) {
            makeRoom(length + n);
            for (int i = n - 1; i >= 0; i--) {
                bytes[length] = (byte) (w >>> (8 * i));
                length++;
            }
        }

        private void append(Row from, int start, int n) {
            if (start < 0 || n < 0 || start + n > from.length) {
                return;
            }
            makeRoom(length + n);
            System.arraycopy(from.bytes, start, bytes, length, n);
            length += n;
        }

        /** The n bytes from a place on as one number, the highest first. */
        private long read(int from, int n) {
            long w = 0;
            for (int i = 0; i < n; i++) {
                w = w << 8 | (at(from + i) & 255);
            }
            return w;
        }

        private long sumOf(int from, int to) {
            long s = 0;
            for (int i = from; i < to; i++) {
                long x = s ^ (at(i) & 255);
                s = (x << 53 | x >>> 11) * 0xC2B2AE3D27D4EB4FL;
            }
            return s;
        }
    }

    /** Reads a text as tokens, tells one of them at a time, and keeps the first fault that its reader finds. */
    private static final class Tokens {
        private Row text;
        private int kind = END;
        private int place;
        private int end;
        private long key;
        private int passed;
        private int known;
        private int[] kinds = new int[64];
        private int[] places = new int[64];
        private long[] keys = new long[64];
        private int faultCode;
        private int faultPlace;

        private Tokens(Row first) {
            text = first;
        }

        private void open(Row row) {
            text = row;
            end = 0;
            kind = NAME;
            known = 0;
            faultCode = 0;
            faultPlace = 0;
            for (int n = 0; n <= row.length && kind != END && kind != BAD; n++) {
                scan();
                note();
            }
            passed = -1;
            kind = kinds[0];
            next();
        }

        private void note() {
            if (known >= kinds.length) {
                kinds = Arrays.copyOf(kinds, 2 * known);
                places = Arrays.copyOf(places, 2 * known);
                keys = Arrays.copyOf(keys, 2 * known);
            }
            kinds[known] = kind;
            places[known] = place;
            keys[known] = key;
            known++;
        }

        /** Once stopped it stays so: a reader that met a fault sees nothing that could stand anywhere. */
        private void next() {
            if (kind != STOPPED && passed + 1 < known) {
                passed++;
                kind = kinds[passed];
                place = places[passed];
                key = keys[passed];
            }
        }

        private boolean expect(int wanted) {
            boolean is = kind == wanted;
            if (is) {
                next();
            } else {
                refuse(FAULT_TOKEN, place);
            }
            return is;
        }

        private void refuse(int why, int where) {
            if (kind != STOPPED) {
                faultCode = kind == BAD ? FAULT_BYTE : why;
                faultPlace = where;
                kind = STOPPED;
            }
        }

        /** The token that comes behind the place where the latest one ends. */
        private void scan() {
            skipBlanks();
            place = end;
            key = 0;
            int c = text.at(end);
            if (c == NONE) {
                kind = END;
            } else if (isLetter(c)) {
                scanName();
            } else if (isFigure(c)) {
                scanNumber();
            } else {
                scanSign(c);
            }
        }

        private void skipBlanks() {
            boolean remark = false;
            while (end < text.length) {
                int c = text.at(end);
                if (c == '%') {
                    remark = true;
                } else if (c == 10) {
                    remark = false;
                }
                if (!remark && c != 9 && c != 10 && c != 13 && c != 32) {
                    break;
                }
                end++;
            }
        }

        private void scanName() {
            while (end < text.length && (isLetter(text.at(end)) || isFigure(text.at(end)))) {
                key = key << 8 | text.at(end);
                end++;
            }
            kind = end - place > 8 ? BAD : NAME;
            for (int i = 0; i < WORD_KEYS.length && kind == NAME; i++) {
                if (WORD_KEYS[i] == key) {
                    kind = FIRST_WORD + i;
                }
            }
        }

        private void scanNumber() {
            while (end < text.length && isFigure(text.at(end))) {
                key = key * 10 + text.at(end) - '0';
                end++;
            }
            kind = end - place > 4 ? BAD : NUMBER;
        }

        private void scanSign(int c) {
            int then = text.at(end + 1);
            kind = SIGNS.indexOf((char) c) < 0 ? BAD : c;
            if (c == '<' && then == '=') {
                kind = AT_MOST;
            } else if (c == '>' && then == '=') {
                kind = AT_LEAST;
            } else if (c == '-' && then == '>') {
                kind = ARROW;
            } else if (c == '.' && then == '.') {
                kind = DOTS;
            }
            end += kind >= NAME ? 2 : 1;
        }

        /** Byte i of the statement that begins at a place, written with one blank between its tokens. */
        private int spaced(Row row, int from, int i) {
            text = row;
            end = from;
            int at = 0;
            for (int n = 0; n < MAX_BYTES; n++) {
                scan();
                int width = end - place;
                if (i < at + width) {
                    return row.at(place + i - at);
                }
                if (kind == ';' || kind == END) {
                    return NONE;
                }
                if (i == at + width) {
                    return ' ';
                }
                at += width + 1;
            }
            return NONE;
        }

        /** The key of the one NAME that is all of a row; 0 if that is something else. */
        private long onlyName(Row row) {
            text = row;
            end = 0;
            scan();
            return kind == NAME && place == 0 && end == row.length ? key : 0;
        }

        private static boolean isLetter(int c) {
            return c >= 'a' && c <= 'z' || c >= 'A' && c <= 'Z';
        }

        private static boolean isFigure(int c) {
            return c >= '0' && c <= '9';
        }
    }

    /**
     * What the text of a problem says. Rules and aims are formulas (aims behind MAX_RULES), each a piece of code
     * for a machine with a stack: an operation and its argument, and for lists so many numbers more.
     */
    private static final class Script {
        private final Row text = new Row();
        private final int[] statements = new int[MAX_NAMED];
        private int statementCount;
        private final long[] names = new long[MAX_NAMED];
        private final int[] counts = new int[SORTS];
        private final int[] toldFacts = new int[MAX_FACTS];
        private final int[] ranges = new int[MAX_VARS * MAX_RANGE];
        private final int[] sizes = new int[MAX_VARS];
        private final int[] strides = new int[MAX_VARS];
        private int plans;
        private int[] code = new int[128];
        private int codeLength;
        private final int[] starts = new int[MAX_FORMULAS];
        private final int[] ends = new int[MAX_FORMULAS];
        private final int[] levels = new int[MAX_FORMULAS];
        private final int[] weights = new int[MAX_FORMULAS];
        private final int[] masks = new int[MAX_FORMULAS];
        private final int[] users = new int[MAX_VARS];
        private final int[] hard = new int[MAX_HARD];
        private int hardCount;

        private void clear() {
            statementCount = 0;
            Arrays.fill(counts, 0);
            Arrays.fill(users, 0);
            plans = 1;
            codeLength = 0;
            hardCount = 0;
        }

        private boolean isTold(int sort, int k) {
            return sort >= 0 && sort < SORTS && k >= 0 && k < counts[sort];
        }

        private int lookUp(long key) {
            for (int sort = 0; sort < SORTS; sort++) {
                for (int k = 0; k < counts[sort]; k++) {
                    if (names[SORT_BASE[sort] + k] == key) {
                        return SORT_STEP * sort + k;
                    }
                }
            }
            return NONE;
        }

        private int nameLength(int sort, int k) {
            long key = names[SORT_BASE[sort] + k];
            int n = 0;
            while (n < 8 && key >>> (8 * n) != 0) {
                n++;
            }
            return n;
        }

        private int nameByte(int sort, int k, int i) {
            int n = nameLength(sort, k);
            if (i < 0 || i >= n) {
                return NONE;
            }
            return (int) (names[SORT_BASE[sort] + k] >>> (8 * (n - 1 - i))) & 255;
        }

        private int valueAt(int v, int place) {
            return ranges[v * MAX_RANGE + place];
        }

        private int placeOf(int v, int value) {
            for (int k = 0; k < sizes[v]; k++) {
                if (valueAt(v, k) == value) {
                    return k;
                }
            }
            return NONE;
        }

        private int allVars() {
            return (1 << counts[VARS]) - 1;
        }

        /** How many plans there are when these vars are free. */
        private int plansOf(int vars) {
            int n = 1;
            for (int v = 0; v < counts[VARS]; v++) {
                n *= (vars >> v & 1) != 0 ? sizes[v] : 1;
            }
            return n;
        }

        private void tellName(int sort, long key) {
            names[SORT_BASE[sort] + counts[sort]] = key;
            counts[sort]++;
        }

        private void tellFact(long key, int value) {
            toldFacts[counts[FACTS]] = value;
            tellName(FACTS, key);
        }

        private void tellVar(long key, int[] values, int n) {
            int v = counts[VARS];
            System.arraycopy(values, 0, ranges, v * MAX_RANGE, n);
            sizes[v] = n;
            plans *= n;
            tellName(VARS, key);
            int stride = 1;
            for (int i = v; i >= 0; i--) {
                strides[i] = stride;
                stride *= sizes[i];
            }
        }

        private void tellStatement(int start) {
            if (statementCount < statements.length) {
                statements[statementCount] = start;
                statementCount++;
            }
        }

        /** The code of the rule or aim that is told next: all from a place on. */
        private void tellCode(int sort, int from, int vars) {
            int k = counts[sort] + (sort == AIMS ? MAX_RULES : 0);
            starts[k] = from;
            ends[k] = codeLength;
            masks[k] = vars;
            for (int v = 0; v < counts[VARS]; v++) {
                users[v] |= (vars >> v & 1) << k;
            }
        }

        private void tellFormula(int sort, long key, int level, int weight) {
            int k = counts[sort] + (sort == AIMS ? MAX_RULES : 0);
            levels[k] = level;
            weights[k] = weight;
            if (level == 0) {
                hard[hardCount] = k;
                hardCount++;
            }
            tellName(sort, key);
        }

        private int add(int x) {
            if (codeLength >= code.length) {
                code = Arrays.copyOf(code, 2 * code.length);
            }
            code[codeLength] = x;
            codeLength++;
            return codeLength - 1;
        }

        private void patch(int at, int x) {
            if (at >= 0 && at < codeLength) {
                code[at] = x;
            }
        }

        private void emit(int operation, int argument) {
            add(operation);
            add(argument);
        }
    }

    /** Reads the text of a script. */
    private static final class Reader {
        private final Tokens tokens;
        private final int[] draft = new int[2 * MAX_RANGE_NUMBER + 2];
        private Script script;
        private int seen;

        private Reader(Tokens with, Script first) {
            tokens = with;
            script = first;
        }

        /** True when the text is right; else its fault is with the tokens. */
        private boolean read(Script into) {
            script = into;
            script.clear();
            tokens.open(script.text);
            for (int k = 0; k <= MAX_NAMED && (k == 0 || tokens.kind != END); k++) {
                int start = tokens.place;
                switch (tokens.kind) {
                    case FACT:
                        readFact();
                        break;
                    case VAR:
                        readVar();
                        break;
                    case RULE:
                        readFormula(RULES);
                        break;
                    case AIM:
                        readFormula(AIMS);
                        break;
                    default:
                        tokens.refuse(FAULT_TOKEN, start);
                }
                if (tokens.kind == STOPPED) {
                    return false;
                }
                script.tellStatement(start);
            }
            boolean tooMuch = (long) script.plans * tokens.passed > MAX_WORK;
            if (script.counts[VARS] == 0 || tooMuch) {
                tokens.refuse(FAULT_LIMIT, script.text.length);
            }
            return tokens.faultCode == 0;
        }

        private void readFact() {
            tokens.next();
            long key = newName(FACTS);
            tokens.expect('=');
            int value = readInt();
            if (tokens.expect(';')) {
                script.tellFact(key, value);
            }
        }

        private void readVar() {
            tokens.next();
            int namePlace = tokens.place;
            long key = newName(VARS);
            tokens.expect(IN);
            int n = tokens.kind == '{' ? listedRange() : spannedRange();
            if (tokens.kind == ';' && (n > MAX_RANGE || script.plans * n > MAX_PLANS)) {
                tokens.refuse(FAULT_LIMIT, namePlace);
            }
            if (tokens.expect(';')) {
                script.tellVar(key, draft, n);
            }
        }

        private void readFormula(int sort) {
            tokens.next();
            long key = newName(sort);
            tokens.expect(AT);
            boolean oneHardMore = sort == RULES && script.hardCount >= MAX_HARD;
            if (oneHardMore && tokens.kind == NUMBER && tokens.key == 0) {
                tokens.refuse(FAULT_LIMIT, tokens.place);
            }
            int level = readNumber(sort == RULES ? 0 : 1, LEVELS - 1);
            int weight = 1;
            if (sort == RULES) {
                tokens.expect('*');
                weight = readNumber(1, 1000);
            }
            tokens.expect(':');
            seen = 0;
            int from = script.codeLength;
            if (sort == RULES) {
                test(0);
            } else {
                sum(0);
            }
            if (tokens.expect(';')) {
                script.tellCode(sort, from, seen);
                script.tellFormula(sort, key, level, weight);
            }
        }

        private long newName(int sort) {
            if (tokens.kind != NAME) {
                tokens.refuse(FAULT_TOKEN, tokens.place);
            } else if (script.lookUp(tokens.key) != NONE) {
                tokens.refuse(FAULT_TOLD, tokens.place);
            } else if (script.counts[sort] >= SORT_LIMIT[sort]) {
                tokens.refuse(FAULT_LIMIT, tokens.place);
            }
            long key = tokens.key;
            tokens.next();
            return key;
        }

        private int listedRange() {
            tokens.next();
            int n = 0;
            while (n < draft.length) {
                draft[n] = rangeValue(-MAX_RANGE_NUMBER, n);
                n++;
                if (tokens.kind != ',') {
                    break;
                }
                tokens.next();
            }
            tokens.expect('}');
            return n;
        }

        private int spannedRange() {
            int low = rangeValue(-MAX_RANGE_NUMBER, 0);
            tokens.expect(DOTS);
            int high = rangeValue(low, 0);
            for (int k = 0; k < draft.length && low + k <= high; k++) {
                draft[k] = low + k;
            }
            return high - low + 1;
        }

        /** A value that is not below the least one, and none of the first n of the draft. */
        private int rangeValue(int least, int n) {
            boolean minus = tokens.kind == '-';
            if (minus) {
                tokens.next();
            }
            if (tokens.kind != NUMBER) {
                tokens.refuse(FAULT_TOKEN, tokens.place);
                return 0;
            }
            int x = (int) (minus ? -tokens.key : tokens.key);
            boolean wrong = tokens.key > MAX_RANGE_NUMBER || x < least;
            for (int k = 0; k < n; k++) {
                wrong |= draft[k] == x;
            }
            if (wrong) {
                tokens.refuse(FAULT_NUMBER, tokens.place);
            }
            tokens.next();
            return x;
        }

        // A TEST, with so many signs open around it. Its ORs and ANDs are two loops, one in the other.
        private void test(int open) {
            for (int ors = 0; ors < MAX_BYTES; ors++) {
                for (int ands = 0; ands < MAX_BYTES; ands++) {
                    unit(open);
                    if (ands > 0) {
                        script.emit('&', 0);
                    }
                    if (tokens.kind != '&') {
                        break;
                    }
                    tokens.next();
                }
                if (ors > 0) {
                    script.emit('|', 0);
                }
                if (tokens.kind != '|') {
                    break;
                }
                tokens.next();
            }
            if (tokens.kind == ARROW && opens(open)) {
                test(open + 1);
                script.emit(ARROW, 0);
            }
        }

        private void unit(int open) {
            switch (tokens.kind) {
                case '~':
                    if (opens(open)) {
                        unit(open + 1);
                        script.emit('~', 0);
                    }
                    break;
                case '{':
                    if (opens(open)) {
                        test(open + 1);
                        tokens.expect('}');
                    }
                    break;
                case ALL:
                case ROW:
                case LEX:
                case RING:
                case AUTO:
                case BUSY:
                case APART:
                    readList(tokens.kind);
                    break;
                default:
                    compare(open);
            }
        }

        private void compare(int open) {
            sum(open);
            int sign = tokens.kind;
            switch (sign) {
                case '=':
                case '#':
                case '<':
                case '>':
                case AT_MOST:
                case AT_LEAST:
                    tokens.next();
                    sum(open);
                    script.emit(sign, 0);
                    break;
                default:
                    tokens.refuse(FAULT_TOKEN, tokens.place);
            }
        }

        // A SUM: its TERMs and their FACTORs are two loops, one in the other.
        private void sum(int open) {
            int joint = NONE;
            for (int terms = 0; terms < MAX_BYTES; terms++) {
                for (int factors = 0; factors < MAX_BYTES; factors++) {
                    factor(open);
                    if (factors > 0) {
                        script.emit('*', 0);
                    }
                    if (tokens.kind != '*') {
                        break;
                    }
                    tokens.next();
                }
                if (terms > 0) {
                    script.emit(joint, 0);
                }
                joint = tokens.kind;
                if (joint != '+' && joint != '-') {
                    break;
                }
                tokens.next();
            }
        }

        private void factor(int open) {
            switch (tokens.kind) {
                case NUMBER:
                    script.emit(NUMBER, (int) tokens.key);
                    tokens.next();
                    break;
                case NAME:
                    readOperand();
                    break;
                case '-':
                    if (opens(open)) {
                        factor(open + 1);
                        script.emit(NEGATE, 0);
                    }
                    break;
                case '(':
                    if (opens(open)) {
                        sum(open + 1);
                        tokens.expect(')');
                    }
                    break;
                case '[':
                    if (opens(open)) {
                        test(open + 1);
                        tokens.expect(']');
                        script.emit('~', 0);
                    }
                    break;
                case ABS:
                case MIN:
                case MAX:
                case PICK:
                    readFunction(tokens.kind, open);
                    break;
                default:
                    tokens.refuse(FAULT_TOKEN, tokens.place);
            }
        }

        private void readOperand() {
            int x = script.lookUp(tokens.key);
            int v = x - SORT_STEP * VARS;
            if (x >= 0 && x < SORT_STEP) {
                script.emit(FACT, x);
            } else if (v >= 0 && v < SORT_STEP) {
                script.emit(VAR, v);
                seen |= 1 << v;
            } else {
                tokens.refuse(FAULT_NAME, tokens.place);
            }
            tokens.next();
        }

        private void readFunction(int word, int open) {
            tokens.next();
            if (tokens.kind != '(') {
                tokens.refuse(FAULT_TOKEN, tokens.place);
            }
            if (!opens(open)) {
                return;
            }
            int n = 1;
            sum(open + 1);
            boolean several = word == MIN || word == MAX;
            while (several && n < MAX_SUMS && tokens.kind == ',') {
                tokens.next();
                sum(open + 1);
                n++;
            }
            script.emit(word, n);
            if (word == PICK) {
                int head = script.codeLength - 1;
                tokens.expect(':');
                readSeries('i', MAX_SUMS, 1);
                script.patch(head, script.codeLength - head - 1);
            }
            tokens.expect(')');
        }

        private void readList(int word) {
            tokens.next();
            tokens.expect('(');
            script.emit(word, 0);
            int head = script.codeLength - 1;
            int width = 0;
            if (word == BUSY) {
                readField('n');
                tokens.expect(':');
            } else if (word != APART) {
                width = readSeries('v', MAX_LISTED, 1);
            }
            switch (word) {
                case LEX:
                    tokens.expect(':');
                    readSeries('v', width, width);
                    break;
                case ROW:
                    tokens.expect(':');
                    readItems("i", width);
                    break;
                case AUTO:
                    tokens.expect(':');
                    readItems("sis", 3);
                    tokens.expect(':');
                    readSeries('s', MAX_STATES, 1);
                    break;
                case BUSY:
                    readItems("vnn", 3);
                    break;
                case APART:
                    readItems("vvnn", 4);
                    break;
                default:
            }
            script.patch(head, script.codeLength - head - 1);
            tokens.expect(')');
        }

        /** Fields of one shape with , between, behind the number of them: how many. */
        private int readSeries(char shape, int most, int fewest) {
            int count = script.add(0);
            int n = 1;
            readField(shape);
            while (n < most && tokens.kind == ',') {
                tokens.next();
                readField(shape);
                n++;
            }
            if (n < fewest) {
                tokens.refuse(FAULT_TOKEN, tokens.place);
            }
            script.patch(count, n);
            return n;
        }

        /** Rows of fields in ( ), behind the number of them; the last of the shapes goes on for all that follow. */
        private void readItems(String shapes, int width) {
            int count = script.add(0);
            int n = 0;
            boolean more = true;
            while (more && n < MAX_ITEMS) {
                tokens.expect('(');
                for (int i = 0; i < width; i++) {
                    if (i > 0) {
                        tokens.expect(',');
                    }
                    readField(shapes.charAt(Math.min(i, shapes.length() - 1)));
                }
                tokens.expect(')');
                n++;
                more = n < MAX_ITEMS && tokens.kind == ',';
                if (more) {
                    tokens.next();
                }
            }
            script.patch(count, n);
        }

        /** A var's NAME (v), an INT (i), a NUMBER (n) or a state (s). */
        private void readField(char shape) {
            boolean minus = shape == 'i' && tokens.kind == '-';
            if (minus) {
                tokens.next();
            }
            int x = (int) tokens.key;
            if (tokens.kind != (shape == 'v' ? NAME : NUMBER)) {
                tokens.refuse(FAULT_TOKEN, tokens.place);
            } else if (shape == 'v') {
                x = script.lookUp(tokens.key) - SORT_STEP * VARS;
                if (x >= 0 && x < SORT_STEP) {
                    seen |= 1 << x;
                } else {
                    tokens.refuse(FAULT_NAME, tokens.place);
                }
            } else if (shape == 's' && x > 9) {
                tokens.refuse(FAULT_NUMBER, tokens.place);
            }
            tokens.next();
            script.add(minus ? -x : x);
        }

        private int readInt() {
            boolean minus = tokens.kind == '-';
            if (minus) {
                tokens.next();
            }
            int x = (int) tokens.key;
            tokens.expect(NUMBER);
            return minus ? -x : x;
        }

        private int readNumber(int low, int high) {
            int x = (int) tokens.key;
            if (tokens.kind == NUMBER && (x < low || x > high)) {
                tokens.refuse(FAULT_NUMBER, tokens.place);
            }
            tokens.expect(NUMBER);
            return x;
        }

        /** Passes a sign that stays open, unless too many are. */
        private boolean opens(int open) {
            if (open >= MAX_OPEN) {
                tokens.refuse(FAULT_OPEN, tokens.place);
            }
            tokens.next();
            return tokens.kind != STOPPED;
        }
    }

    /** A problem as it is now, and a memory of what its plans have been found to be. */
    private static final class Problem {
        private final Script script = new Script();
        private boolean live;
        private final int[] facts = new int[MAX_FACTS];
        private final int[] places = new int[MAX_VARS];
        private int pins;
        private final int[] costs = new int[MAX_VARS];
        private int futures;
        private final int[] odds = new int[MAX_FUTURES];
        private final int[] tells = new int[MAX_FUTURES];
        private final int[] tellings = new int[MAX_FUTURES * MAX_FACTS];
        private boolean fresh;
        private int[] known = new int[0];
        private long[] ones = new long[0];
        private long[] twos = new long[0];

        private void begin() {
            live = true;
            System.arraycopy(script.toldFacts, 0, facts, 0, MAX_FACTS);
            Arrays.fill(places, 0);
            pins = 0;
            Arrays.fill(costs, 1);
            futures = 0;
            fresh = false;
        }

        /** What is known of plans goes by the facts, so it is forgotten when they have changed. */
        private void refresh() {
            if (fresh) {
                return;
            }
            if (known.length < script.plans) {
                int n = Math.max(script.plans, Math.min(MAX_PLANS, 2 * known.length));
                known = new int[n];
                ones = new long[n];
                twos = new long[n];
            }
            Arrays.fill(known, 0, script.plans, 0);
            fresh = true;
        }

        private int freeVars() {
            return script.allVars() & ~pins;
        }

        /** The plan with a number is at hand then; false when it is NONE. */
        private boolean adopt(int index) {
            if (index < 0) {
                return false;
            }
            int rest = index;
            for (int v = 0; v < script.counts[VARS]; v++) {
                int stride = Math.max(1, script.strides[v]);
                places[v] = rest / stride;
                rest = rest % stride;
            }
            return true;
        }

        private int addFuture(int withOdds) {
            if (futures >= MAX_FUTURES) {
                return FULL;
            }
            odds[futures] = withOdds;
            tells[futures] = 0;
            futures++;
            return futures - 1;
        }

        private void tell(int u, int f, int value) {
            tells[u] |= 1 << f;
            tellings[u * MAX_FACTS + f] = value;
        }

        private void fillFacts(int u, int[] into) {
            for (int f = 0; f < script.counts[FACTS]; f++) {
                into[f] = (tells[u] >> f & 1) != 0 ? tellings[u * MAX_FACTS + f] : facts[f];
            }
        }

        private long allOdds() {
            long sum = 0;
            for (int u = 0; u < futures; u++) {
                sum += odds[u];
            }
            return sum;
        }
    }

    /** One plan that is tried: it goes through plans in order, and tells what formulas are in each. */
    private static final class Trial {
        private Script script;
        private int[] facts;
        private final int[] places = new int[MAX_VARS];
        private final int[] values = new int[MAX_VARS];
        private int free;
        private int index;
        private final int[] stack = new int[512];
        private int top;
        private final int[] results = new int[MAX_FORMULAS];
        private int known;

        private Trial(Problem first) {
            script = first.script;
            facts = first.facts;
        }

        /** The first plan in which the vars that are not free are as in another one: how many there are of those. */
        private int begin(Script of, int[] byFacts, int[] base, int freeVars) {
            script = of;
            facts = byFacts;
            known = 0;
            free = freeVars;
            index = 0;
            for (int v = 0; v < of.counts[VARS]; v++) {
                places[v] = (freeVars >> v & 1) != 0 ? 0 : base[v];
                values[v] = of.valueAt(v, places[v]);
                index += places[v] * of.strides[v];
            }
            return of.plansOf(freeVars);
        }

        private void goBy(int[] otherFacts) {
            facts = otherFacts;
            known = 0;
        }

        private void set(int v, int place) {
            known &= ~script.users[v];
            index += (place - places[v]) * script.strides[v];
            places[v] = place;
            values[v] = script.valueAt(v, place);
        }

        private void step() {
            for (int v = script.counts[VARS] - 1; v >= 0; v--) {
                if ((free >> v & 1) != 0) {
                    boolean turns = places[v] + 1 >= script.sizes[v];
                    set(v, turns ? 0 : places[v] + 1);
                    if (!turns) {
                        return;
                    }
                }
            }
        }

        private long total(int level) {
            long sum = 0;
            for (int r = 0; r < script.counts[RULES]; r++) {
                if (script.levels[r] == level) {
                    sum += (long) script.weights[r] * run(r);
                }
            }
            for (int k = MAX_RULES; k < MAX_RULES + script.counts[AIMS]; k++) {
                if (script.levels[k] == level) {
                    sum += run(k);
                }
            }
            return sum;
        }

        private void totals(long[] into) {
            Arrays.fill(into, 0);
            for (int r = 0; r < script.counts[RULES]; r++) {
                into[script.levels[r]] += (long) script.weights[r] * run(r);
            }
            for (int k = MAX_RULES; k < MAX_RULES + script.counts[AIMS]; k++) {
                into[script.levels[k]] += run(k);
            }
        }

        private boolean keepsHard() {
            for (int h = 0; h < script.hardCount; h++) {
                if (run(script.hard[h]) != 0) {
                    return false;
                }
            }
            return true;
        }

        /** What a formula is. It is worked out anew only if a var in it has changed. */
        private int run(int formula) {
            if ((known >> formula & 1) != 0) {
                return results[formula];
            }
            int[] code = script.code;
            int pc = script.starts[formula];
            int end = script.ends[formula];
            top = 0;
            while (pc + 1 < end && top < stack.length) {
                int operation = code[pc];
                int argument = code[pc + 1];
                pc += 2;
                if (operation == VAR) {
                    stack[top++] = values[argument];
                } else if (operation == NUMBER) {
                    stack[top++] = argument;
                } else if (operation <= ARROW && operation != '~' && top > 1) {
                    top--;
                    stack[top - 1] = pair(operation, stack[top - 1], stack[top]);
                } else if (operation == FACT) {
                    stack[top++] = facts[argument];
                } else if (operation >= ALL && operation <= APART) {
                    stack[top++] = listed(operation, code, pc);
                    pc += argument;
                } else if (operation == MIN || operation == MAX) {
                    joinMany(operation == MIN, argument);
                } else if (top > 0) {
                    stack[top - 1] = alone(operation, stack[top - 1], code, pc);
                    pc += operation == PICK ? argument : 0;
                }
            }
            results[formula] = top == 0 ? 0 : stack[0];
            known |= 1 << formula;
            return results[formula];
        }

        private static int alone(int operation, int a, int[] code, int at) {
            switch (operation) {
                case '~':
                    return a == 0 ? 1 : 0;
                case NEGATE:
                    return -a;
                case ABS:
                    return Math.abs(a);
                default:
                    return a >= 0 && a < code[at] ? code[at + 1 + a] : 0;
            }
        }

        private void joinMany(boolean least, int n) {
            for (int i = 1; i < n && top > 1; i++) {
                top--;
                int a = stack[top - 1];
                int b = stack[top];
                stack[top - 1] = least ? Math.min(a, b) : Math.max(a, b);
            }
        }

        private static int pair(int operation, int a, int b) {
            switch (operation) {
                case '+':
                    return Math.max(-HELD, Math.min(HELD, a + b));
                case '-':
                    return Math.max(-HELD, Math.min(HELD, a - b));
                case '*':
                    return (int) Math.max(-HELD, Math.min(HELD, (long) a * b));
                case '&':
                    return Math.min(HELD, a + b);
                case '|':
                    return Math.min(a, b);
                case ARROW:
                    return a == 0 ? b : 0;
                case '=':
                    return Math.abs(a - b);
                case '#':
                    return a == b ? 1 : 0;
                case '<':
                    return Math.max(0, a - b + 1);
                case AT_MOST:
                    return Math.max(0, a - b);
                case '>':
                    return Math.max(0, b - a + 1);
                default:
                    return Math.max(0, b - a);
            }
        }

        private int listed(int operation, int[] code, int at) {
            switch (operation) {
                case ALL:
                    return repeated(code, at);
                case ROW:
                    return offRows(code, at);
                case LEX:
                    return outOfOrder(code, at);
                case RING:
                    return noRing(code, at);
                case AUTO:
                    return stuck(code, at);
                case BUSY:
                    return overBusy(code, at);
                default:
                    return overlaps(code, at);
            }
        }

        private int repeated(int[] code, int at) {
            int same = 0;
            for (int i = 1; i <= code[at]; i++) {
                for (int j = 1; j < i; j++) {
                    if (values[code[at + i]] == values[code[at + j]]) {
                        same++;
                        break;
                    }
                }
            }
            return same;
        }

        private int offRows(int[] code, int at) {
            int width = code[at];
            int rows = at + width + 2;
            int least = width;
            for (int k = 0; k < code[rows - 1]; k++) {
                int off = 0;
                for (int i = 0; i < width; i++) {
                    off += values[code[at + 1 + i]] != code[rows + k * width + i] ? 1 : 0;
                }
                least = Math.min(least, off);
            }
            return least;
        }

        private int outOfOrder(int[] code, int at) {
            int n = code[at];
            for (int i = 1; i <= n; i++) {
                int a = values[code[at + i]];
                int b = values[code[at + n + 1 + i]];
                if (a != b) {
                    return a > b ? 1 : 0;
                }
            }
            return 0;
        }

        private int noRing(int[] code, int at) {
            int n = code[at];
            int met = 0;
            int moving = 0;
            int start = 0;
            for (int i = 0; i < n; i++) {
                int x = values[code[at + 1 + i]];
                if (x < 0 || x >= n || (met >> x & 1) != 0) {
                    return 1;
                }
                met |= 1 << x;
                if (x != i) {
                    moving++;
                    start = i;
                }
            }
            int length = 0;
            int i = start;
            for (int k = 0; k < n && moving > 0; k++) {
                i = values[code[at + 1 + i]];
                length++;
                if (i == start) {
                    break;
                }
            }
            return length == moving ? 0 : 1;
        }

        private int stuck(int[] code, int at) {
            int arrows = at + code[at] + 2;
            int states = arrows + 3 * code[arrows - 1] + 1;
            int state = 0;
            for (int i = 1; i <= code[at]; i++) {
                int value = values[code[at + i]];
                int arrow = arrows;
                while (arrow < states - 1 && (code[arrow] != state || code[arrow + 1] != value)) {
                    arrow += 3;
                }
                if (arrow >= states - 1) {
                    return 1;
                }
                state = code[arrow + 2];
            }
            for (int i = 0; i < code[states - 1]; i++) {
                if (code[states + i] == state) {
                    return 0;
                }
            }
            return 1;
        }

        // The greatest sum of heights is met at the beginning of some task.
        private int overBusy(int[] code, int at) {
            int first = at + 2;
            int end = first + 3 * code[at + 1];
            int greatest = 0;
            for (int i = first; i < end; i += 3) {
                int time = values[code[i]];
                int sum = 0;
                for (int j = first; j < end; j += 3) {
                    int start = values[code[j]];
                    sum += start <= time && time < start + code[j + 1] ? code[j + 2] : 0;
                }
                greatest = Math.max(greatest, sum);
            }
            return Math.max(0, greatest - code[at]);
        }

        private int overlaps(int[] code, int at) {
            int pairs = 0;
            int end = at + 1 + 4 * code[at];
            for (int i = at + 1; i < end; i += 4) {
                int x = values[code[i]];
                int y = values[code[i + 1]];
                for (int j = at + 1; j < i; j += 4) {
                    int x2 = values[code[j]];
                    int y2 = values[code[j + 1]];
                    boolean wide = x < x2 + code[j + 2] && x2 < x + code[i + 2];
                    boolean high = y < y2 + code[j + 3] && y2 < y + code[i + 3];
                    pairs += wide && high ? 1 : 0;
                }
            }
            return pairs;
        }
    }

    /** Looks for the best among plans. */
    private static final class Judge {
        private static final int HARD_BITS = (1 << MAX_HARD) - 1;
        private static final int MASK_KNOWN = 1 << MAX_HARD;
        private static final int SCORES_KNOWN = 2 << MAX_HARD;

        private final Trial trial;
        private Problem problem;
        private int chosenCount;
        private int bestCount;
        private int bestIndex;
        private long bestOne;
        private long bestTwo;
        private int[] order = new int[0];
        private int pairCount;
        private int pairPlan;
        private final int[][] futureFacts = new int[MAX_FUTURES][MAX_FACTS];
        private final long[] hand = new long[LEVELS];

        private Judge(Trial with, Problem first) {
            trial = with;
            problem = first;
        }

        private Trial atHand(Problem q) {
            trial.begin(q.script, q.facts, q.places, 0);
            return trial;
        }

        /** Goes to the first of the plans with these vars free: how many they are. */
        private int begin(Problem q, int free) {
            problem = q;
            q.refresh();
            return trial.begin(q.script, q.facts, q.places, free);
        }

        /** Which hard rules the plan that is tried breaks, with the bit of each one's number among the hard ones. */
        private int maskHere() {
            int i = trial.index;
            if ((problem.known[i] & MASK_KNOWN) == 0) {
                int set = MASK_KNOWN;
                for (int h = 0; h < problem.script.hardCount; h++) {
                    set |= trial.run(problem.script.hard[h]) != 0 ? 1 << h : 0;
                }
                problem.known[i] |= set;
            }
            return problem.known[i] & HARD_BITS;
        }

        private void scoreHere() {
            int i = trial.index;
            if ((problem.known[i] & SCORES_KNOWN) != 0) {
                return;
            }
            Script script = problem.script;
            problem.ones[i] = 0;
            problem.twos[i] = 0;
            for (int r = 0; r < script.counts[RULES]; r++) {
                if (script.levels[r] > 0) {
                    addHere(script.levels[r], (long) script.weights[r] * trial.run(r));
                }
            }
            for (int k = MAX_RULES; k < MAX_RULES + script.counts[AIMS]; k++) {
                addHere(script.levels[k], trial.run(k));
            }
            problem.known[i] |= SCORES_KNOWN;
        }

        private void addHere(int level, long score) {
            if (level == 1) {
                problem.ones[trial.index] += score;
            } else {
                problem.twos[trial.index] += score;
            }
        }

        /** The best of the feasible plans with these vars free, if a var is given of those that have it there. */
        private void survey(Problem q, int free, int v, int place) {
            int n = begin(q, free);
            bestCount = 0;
            bestIndex = NONE;
            for (int i = 0; i < n; i++) {
                if ((v == NONE || trial.places[v] == place) && maskHere() == 0) {
                    scoreHere();
                    consider(q.ones[trial.index], q.twos[trial.index]);
                }
                trial.step();
            }
        }

        private void consider(long one, long two) {
            if (bestCount == 0 || one < bestOne || one == bestOne && two < bestTwo) {
                bestOne = one;
                bestTwo = two;
                bestIndex = trial.index;
                bestCount = 1;
            } else if (one == bestOne && two == bestTwo) {
                bestCount++;
            }
        }

        /** A feasible plan breaks no hard rule, and no aim is hard. */
        private long bestScore(int level) {
            if (bestCount == 0) {
                return NO;
            }
            return level == 0 ? 0 : level == 1 ? bestOne : bestTwo;
        }

        private void surveyLacking(Problem q, int r) {
            int level = q.script.levels[r];
            int n = begin(q, q.freeVars());
            int bit = 0;
            for (int h = 0; h < q.script.hardCount; h++) {
                bit |= q.script.hard[h] == r ? 1 << h : 0;
            }
            bestCount = 0;
            bestIndex = NONE;
            for (int i = 0; i < n; i++) {
                if ((maskHere() & ~bit) == 0) {
                    scoreHere();
                    long less = level == 0 ? 0 : (long) q.script.weights[r] * trial.run(r);
                    long one = q.ones[trial.index] - (level == 1 ? less : 0);
                    consider(one, q.twos[trial.index] - (level == 2 ? less : 0));
                }
                trial.step();
            }
        }

        /** Begins with the allowed plans, after a look for the best if only those are to be chosen. */
        private int beginChosen(Problem q, boolean best) {
            if (best) {
                survey(q, q.freeVars(), NONE, NONE);
            }
            return begin(q, q.freeVars());
        }

        private boolean isChosen(boolean best) {
            if (maskHere() != 0) {
                return false;
            }
            if (!best) {
                return true;
            }
            scoreHere();
            return problem.ones[trial.index] == bestOne && problem.twos[trial.index] == bestTwo;
        }

        /** In how many of the chosen plans a var has its value at a place (without a var: how many they are). */
        private int countHaving(Problem q, int v, int place, boolean best) {
            int n = beginChosen(q, best);
            int having = 0;
            chosenCount = 0;
            for (int i = 0; i < n; i++) {
                if (isChosen(best)) {
                    chosenCount++;
                    having += v == NONE || trial.places[v] == place ? 1 : 0;
                }
                trial.step();
            }
            return having;
        }

        private int countChoices(Problem q, int v) {
            int n = beginChosen(q, true);
            int set = 0;
            for (int i = 0; i < n; i++) {
                if (isChosen(true)) {
                    set |= 1 << trial.places[v];
                }
                trial.step();
            }
            return Integer.bitCount(set);
        }

        private int indexOf(Problem q, boolean best, int k) {
            int n = beginChosen(q, best);
            int met = 0;
            for (int i = 0; i < n; i++) {
                if (isChosen(best)) {
                    if (met == k) {
                        return trial.index;
                    }
                    met++;
                }
                trial.step();
            }
            return NONE;
        }

        private int takeNearest(Problem q, boolean best) {
            int n = beginChosen(q, best);
            int least = NONE;
            int nearest = NONE;
            for (int i = 0; i < n; i++) {
                if (isChosen(best)) {
                    int cost = costHere(q);
                    if (least == NONE || cost < least) {
                        least = cost;
                        nearest = trial.index;
                    }
                }
                trial.step();
            }
            q.adopt(nearest);
            return least;
        }

        private int costHere(Problem q) {
            int cost = 0;
            for (int v = 0; v < q.script.counts[VARS]; v++) {
                cost += trial.places[v] != q.places[v] ? q.costs[v] : 0;
            }
            return cost;
        }

        private int firstReason(Problem q, int v, int place) {
            survey(q, q.freeVars(), NONE, NONE);
            int best = bestIndex;
            survey(q, q.freeVars(), v, place);
            if (bestIndex == NONE || best == NONE) {
                return NONE;
            }
            for (int r = 0; r < q.script.counts[RULES]; r++) {
                if (brokenIn(q, bestIndex, r) > brokenIn(q, best, r)) {
                    return r;
                }
            }
            return NONE;
        }

        private int brokenIn(Problem q, int plan, int r) {
            int rest = plan;
            for (int v = 0; v < q.script.counts[VARS]; v++) {
                int stride = Math.max(1, q.script.strides[v]);
                trial.set(v, rest / stride);
                rest = rest % stride;
            }
            return trial.run(r);
        }

        /** Whether some feasible allowed plan is better than the plan at hand. */
        private boolean isBeaten(Problem q) {
            survey(q, q.freeVars(), NONE, NONE);
            atHand(q).totals(hand);
            if (bestCount == 0) {
                return false;
            }
            boolean secondLess = bestOne < hand[1] || bestOne == hand[1] && bestTwo < hand[2];
            return hand[0] > 0 || secondLess;
        }

        // ---- the front

        /** Puts the feasible allowed plans in order of their scores, and of the plans themselves. */
        private int sortFeasible(Problem q) {
            int n = begin(q, q.freeVars());
            if (order.length < n) {
                order = new int[Math.max(n, Math.min(MAX_PLANS, 2 * order.length))];
            }
            int many = 0;
            for (int i = 0; i < n; i++) {
                if (maskHere() == 0) {
                    scoreHere();
                    order[many] = trial.index;
                    many++;
                }
                trial.step();
            }
            for (int i = many / 2 - 1; i >= 0; i--) {
                sink(i, many);
            }
            for (int last = many - 1; last > 0; last--) {
                int x = order[0];
                order[0] = order[last];
                order[last] = x;
                sink(0, last);
            }
            return many;
        }

        private void sink(int from, int many) {
            int at = from;
            while (2 * at + 1 < many) {
                int child = 2 * at + 1;
                if (child + 1 < many && isBehind(order[child + 1], order[child])) {
                    child++;
                }
                if (!isBehind(order[child], order[at])) {
                    return;
                }
                int x = order[at];
                order[at] = order[child];
                order[child] = x;
                at = child;
            }
        }

        private boolean isBehind(int a, int b) {
            int c = Long.compare(problem.ones[a], problem.ones[b]);
            if (c == 0) {
                c = Long.compare(problem.twos[a], problem.twos[b]);
            }
            return c == 0 ? a > b : c > 0;
        }

        private boolean isSamePair(int a, int b) {
            return problem.ones[a] == problem.ones[b] && problem.twos[a] == problem.twos[b];
        }

        private int countFront(Problem q) {
            return goFront(q, -1);
        }

        private boolean findPair(Problem q, int k) {
            return k >= 0 && goFront(q, k) > k;
        }

        /** How many pairs the front has; pair k of it, if there is one, is in pairPlan and pairCount. */
        private int goFront(Problem q, int k) {
            int many = sortFeasible(q);
            int pairs = 0;
            int last = NONE;
            for (int i = 0; i < many; i++) {
                if (last == NONE || q.twos[order[i]] < q.twos[last]) {
                    last = order[i];
                    if (pairs == k) {
                        pairPlan = last;
                        pairCount = 0;
                    }
                    pairs++;
                }
                if (pairs == k + 1 && isSamePair(order[i], last)) {
                    pairCount++;
                }
            }
            return pairs;
        }

        // ---- futures

        private void fillFutures(Problem q) {
            for (int u = 0; u < q.futures; u++) {
                q.fillFacts(u, futureFacts[u]);
            }
        }

        private int mostRobust(Problem q) {
            fillFutures(q);
            int n = q.futures == 0 ? 0 : trial.begin(q.script, q.facts, q.places, q.freeVars());
            bestCount = 0;
            bestIndex = NONE;
            for (int i = 0; i < n; i++) {
                if (keepsHardAlways(q)) {
                    consider(oddsTimes(q, 1), oddsTimes(q, 2));
                }
                trial.step();
            }
            return bestIndex;
        }

        private boolean keepsHardAlways(Problem q) {
            for (int u = 0; u < q.futures; u++) {
                trial.goBy(futureFacts[u]);
                if (!trial.keepsHard()) {
                    return false;
                }
            }
            return true;
        }

        /** The sum, over all futures, of odds times the score of the plan that is tried. */
        private long oddsTimes(Problem q, int level) {
            long sum = 0;
            for (int u = 0; u < q.futures; u++) {
                trial.goBy(futureFacts[u]);
                sum += q.odds[u] * trial.total(level);
            }
            return sum;
        }

        private long expectedScore(Problem q, int level) {
            fillFutures(q);
            atHand(q);
            return oddsTimes(q, level);
        }

        private long greatestRegret(Problem q, int level) {
            fillFutures(q);
            long greatest = NO;
            for (int u = 0; u < q.futures; u++) {
                long least = leastScore(q, futureFacts[u], level);
                if (least == NO) {
                    return NO;
                }
                trial.begin(q.script, futureFacts[u], q.places, 0);
                greatest = Math.max(greatest, trial.total(level) - least);
            }
            return greatest;
        }

        private long leastScore(Problem q, int[] byFacts, int level) {
            int n = trial.begin(q.script, byFacts, q.places, q.freeVars());
            long least = NO;
            for (int i = 0; i < n; i++) {
                if (trial.keepsHard()) {
                    long score = trial.total(level);
                    least = least == NO ? score : Math.min(least, score);
                }
                trial.step();
            }
            return least;
        }
    }

    /** Looks at hard rules: which values they leave, which of them clash. Sets of them have bits by their order. */
    private static final class Clashes {
        private final Judge judge;
        private final int[] left = new int[MAX_VARS];
        private final int[] supports = new int[MAX_VARS * MAX_RANGE];
        private boolean[] kept = new boolean[0];

        private Clashes(Judge with) {
            judge = with;
        }

        private boolean isBreakable(Problem q, int r) {
            Trial trial = judge.trial;
            int n = trial.begin(q.script, q.facts, q.places, q.script.masks[r]);
            for (int i = 0; i < n; i++) {
                if (trial.run(r) != 0) {
                    return true;
                }
                trial.step();
            }
            return false;
        }

        private int firstHopeless(Problem q) {
            int n = judge.begin(q, q.freeVars());
            int hopeless = allHard(q);
            for (int i = 0; i < n && hopeless != 0; i++) {
                hopeless &= judge.maskHere();
                judge.trial.step();
            }
            for (int h = 0; h < q.script.hardCount; h++) {
                if ((hopeless >> h & 1) != 0) {
                    return q.script.hard[h];
                }
            }
            return NONE;
        }

        private static int allHard(Problem q) {
            return (1 << q.script.hardCount) - 1;
        }

        /** Works out which values are left: how many. */
        private int leave(Problem q) {
            for (int v = 0; v < q.script.counts[VARS]; v++) {
                boolean pinned = (q.pins >> v & 1) != 0;
                left[v] = pinned ? 1 << q.places[v] : (1 << q.script.sizes[v]) - 1;
            }
            boolean went = true;
            for (int pass = 0; pass <= MAX_VARS * MAX_RANGE && went; pass++) {
                support(q);
                went = dropUnsupported(q);
            }
            int many = 0;
            for (int v = 0; v < q.script.counts[VARS]; v++) {
                many += Integer.bitCount(left[v]);
            }
            return many;
        }

        /** For each value the hard rules that some plan of what is left, with this value, does not break. */
        private void support(Problem q) {
            Arrays.fill(supports, 0);
            int vars = q.script.counts[VARS];
            int n = judge.begin(q, q.freeVars());
            Trial trial = judge.trial;
            for (int i = 0; i < n; i++) {
                if (isWithinLeft(trial, vars)) {
                    int keeps = allHard(q) & ~judge.maskHere();
                    for (int v = 0; v < vars; v++) {
                        supports[v * MAX_RANGE + trial.places[v]] |= keeps;
                    }
                }
                trial.step();
            }
        }

        private boolean isWithinLeft(Trial trial, int vars) {
            for (int v = 0; v < vars; v++) {
                if ((left[v] >> trial.places[v] & 1) == 0) {
                    return false;
                }
            }
            return true;
        }

        private boolean dropUnsupported(Problem q) {
            boolean went = false;
            for (int v = 0; v < q.script.counts[VARS]; v++) {
                for (int k = 0; k < q.script.sizes[v]; k++) {
                    boolean is = (left[v] >> k & 1) != 0;
                    if (is && supports[v * MAX_RANGE + k] != allHard(q)) {
                        left[v] &= ~(1 << k);
                        went = true;
                    }
                }
            }
            return went;
        }

        /** For each set of hard rules: whether some allowed plan breaks none but those of the set. */
        private void gather(Problem q) {
            int sets = 1 << q.script.hardCount;
            if (kept.length < sets) {
                kept = new boolean[sets];
            }
            for (int s = 0; s < sets; s++) {
                kept[s] = false;
            }
            int n = judge.begin(q, q.freeVars());
            for (int i = 0; i < n; i++) {
                kept[judge.maskHere()] = true;
                judge.trial.step();
            }
            for (int s = 0; s < sets; s++) {
                for (int h = 0; h < q.script.hardCount; h++) {
                    kept[s] |= (s >> h & 1) != 0 && kept[s & ~(1 << h)];
                }
            }
        }

        private boolean clashing(Problem q, int set) {
            return !kept[allHard(q) & ~set];
        }

        private int thinned(Problem q) {
            gather(q);
            int set = allHard(q);
            if (!clashing(q, set)) {
                return 0;
            }
            for (int h = 0; h < q.script.hardCount; h++) {
                if (clashing(q, set & ~(1 << h))) {
                    set &= ~(1 << h);
                }
            }
            return byRules(q, set);
        }

        private int smallest(Problem q) {
            gather(q);
            int found = 0;
            for (int set = 1; set <= allHard(q); set++) {
                boolean fewer = found == 0 || Integer.bitCount(set) < Integer.bitCount(found);
                if (fewer && clashing(q, set)) {
                    found = set;
                }
            }
            return byRules(q, found);
        }

        private int cheapest(Problem q) {
            gather(q);
            int found = 0;
            int least = NONE;
            for (int set = 0; set <= allHard(q); set++) {
                if (kept[set] && (least == NONE || weightOf(q, set) < least)) {
                    least = weightOf(q, set);
                    found = set;
                }
            }
            return byRules(q, found);
        }

        private static int weightOf(Problem q, int set) {
            int sum = 0;
            for (int h = 0; h < q.script.hardCount; h++) {
                sum += (set >> h & 1) != 0 ? q.script.weights[q.script.hard[h]] : 0;
            }
            return sum;
        }

        private static int byRules(Problem q, int set) {
            int bits = 0;
            for (int h = 0; h < q.script.hardCount; h++) {
                bits |= (set >> h & 1) != 0 ? 1 << q.script.hard[h] : 0;
            }
            return bits;
        }
    }

    /** A search by moves. */
    private static final class Search {
        private static final int MAX_REMEMBERED = 20;

        private final Trial trial;
        private final int[] free = new int[MAX_VARS];
        private int freeCount;
        private final int[] kept = new int[MAX_VARS];
        private final int[] heldUntil = new int[MAX_VARS];
        private final long[] currentScore = new long[LEVELS];
        private final long[] newScore = new long[LEVELS];
        private final long[] keptScore = new long[LEVELS];
        private final long[][] remembered = new long[MAX_REMEMBERED][LEVELS];
        private int way;
        private int span;
        private int steps;
        private int one;
        private int other;
        private int onePlace;
        private int otherPlace;
        private boolean ran;
        private int z;
        private int trace;
        private int keptStep;

        private Search(Trial with) {
            trial = with;
        }

        private static boolean isWay(int how, int length) {
            switch (how) {
                case 0:
                    return true;
                case 1:
                    return length >= 1 && length <= MAX_REMEMBERED;
                case 2:
                    return length >= 1 && length <= 100;
                case 3:
                    return length >= 1 && length <= 10000;
                default:
                    return false;
            }
        }

        private void prepare(Problem q, int how, int length, int seed, int many) {
            way = how;
            span = length;
            steps = many;
            z = seed;
            trace = 1;
            keptStep = NONE;
            ran = true;
            freeCount = 0;
            for (int v = 0; v < q.script.counts[VARS]; v++) {
                if ((q.pins >> v & 1) == 0 && q.script.sizes[v] > 1) {
                    free[freeCount] = v;
                    freeCount++;
                }
            }
            trial.begin(q.script, q.facts, q.places, 0);
            trial.totals(currentScore);
            copyScore(currentScore, keptScore);
            for (int i = 0; i < MAX_REMEMBERED; i++) {
                copyScore(currentScore, remembered[i]);
            }
            Arrays.fill(heldUntil, -1);
            System.arraycopy(q.places, 0, kept, 0, MAX_VARS);
        }

        private int go(Problem q) {
            int taken = 0;
            for (int s = 0; s < steps && freeCount > 0; s++) {
                int k = draw(4);
                boolean moves = k == 3 ? drawExchange() : drawChange();
                if (moves && tryMove(s)) {
                    taken++;
                    trace = 31 * trace + k;
                }
            }
            System.arraycopy(kept, 0, q.places, 0, MAX_VARS);
            return taken;
        }

        private int draw(int n) {
            z = z * 1664525 + 1013904223;
            return n < 1 ? 0 : (z >>> 8) % n;
        }

        private boolean drawChange() {
            one = free[draw(freeCount)];
            other = one;
            onePlace = draw(trial.script.sizes[one] - 1);
            if (onePlace >= trial.places[one]) {
                onePlace++;
            }
            otherPlace = onePlace;
            return true;
        }

        private boolean drawExchange() {
            one = free[draw(freeCount)];
            other = free[draw(freeCount)];
            onePlace = trial.script.placeOf(one, trial.values[other]);
            otherPlace = trial.script.placeOf(other, trial.values[one]);
            return one != other && onePlace != NONE && otherPlace != NONE;
        }

        private boolean tryMove(int s) {
            int oneWas = trial.places[one];
            int otherWas = trial.places[other];
            trial.set(one, onePlace);
            trial.set(other, otherPlace);
            trial.totals(newScore);
            boolean taken = isTaken(s);
            if (taken) {
                settle(s);
            } else {
                trial.set(one, oneWas);
                trial.set(other, otherWas);
            }
            if (way == 1) {
                copyScore(currentScore, remembered[s % Math.max(1, span)]);
            }
            return taken;
        }

        private boolean isTaken(int s) {
            boolean notWorse = !isBetter(currentScore, newScore);
            switch (way) {
                case 0:
                    return notWorse;
                case 1:
                    return notWorse || !isBetter(remembered[s % Math.max(1, span)], newScore);
                case 2:
                    return mayMove(s) && (notWorse || draw(8) == 0);
                default:
                    return worth(newScore) - worth(currentScore) <= span - span * s / Math.max(1, steps);
            }
        }

        private boolean mayMove(int s) {
            return s > heldUntil[one] && s > heldUntil[other] || isBetter(newScore, keptScore);
        }

        private void settle(int s) {
            copyScore(newScore, currentScore);
            heldUntil[one] = s + span;
            heldUntil[other] = s + span;
            if (isBetter(newScore, keptScore)) {
                copyScore(newScore, keptScore);
                System.arraycopy(trial.places, 0, kept, 0, MAX_VARS);
                keptStep = s;
            }
        }

        private static long worth(long[] score) {
            return 10000 * score[0] + 100 * score[1] + score[2];
        }

        private static void copyScore(long[] from, long[] to) {
            System.arraycopy(from, 0, to, 0, LEVELS);
        }

        private static boolean isBetter(long[] a, long[] b) {
            for (int level = 0; level < LEVELS; level++) {
                if (a[level] != b[level]) {
                    return a[level] < b[level];
                }
            }
            return false;
        }
    }

    /** Reads proofs, and writes them. */
    private static final class Proof {
        private final Tokens tokens;
        private final Trial trial;
        private final int[] given = new int[MAX_VARS];
        private final long[] hand = new long[LEVELS];
        private final long[] bound = new long[LEVELS];
        private Problem problem;
        private int givenVars;

        private Proof(Tokens with, Trial tried, Problem first) {
            tokens = with;
            trial = tried;
            problem = first;
        }

        private boolean isRight(Problem q, Row text) {
            problem = q;
            givenVars = q.pins;
            System.arraycopy(q.places, 0, given, 0, MAX_VARS);
            trial.begin(q.script, q.facts, q.places, 0);
            trial.totals(hand);
            tokens.open(text);
            readTree(0);
            if (tokens.kind != END) {
                tokens.refuse(FAULT_TOKEN, tokens.place);
            }
            return tokens.faultCode == 0;
        }

        private void readTree(int depth) {
            switch (tokens.kind) {
                case '!':
                    readRule();
                    break;
                case '.':
                    pass(isLeafRight());
                    break;
                case '<':
                    pass(isBoundRight());
                    break;
                case NAME:
                    readBranches(depth);
                    break;
                default:
                    tokens.refuse(FAULT_TOKEN, tokens.place);
            }
        }

        private void pass(boolean right) {
            if (!right) {
                tokens.refuse(FAULT_TREE, tokens.place);
            }
            tokens.next();
        }

        private void readRule() {
            int sign = tokens.place;
            tokens.next();
            if (tokens.kind != NAME) {
                tokens.refuse(FAULT_TOKEN, tokens.place);
                return;
            }
            int r = problem.script.lookUp(tokens.key) - SORT_STEP * RULES;
            if (r < 0 || r >= SORT_STEP || problem.script.levels[r] != 0) {
                tokens.refuse(FAULT_NAME, tokens.place);
            } else if (leastOf(r) == 0) {
                tokens.refuse(FAULT_TREE, sign);
            }
            tokens.next();
        }

        private void readBranches(int depth) {
            Script script = problem.script;
            int v = script.lookUp(tokens.key) - SORT_STEP * VARS;
            boolean isVar = v >= 0 && v < SORT_STEP;
            if (!isVar || (givenVars >> v & 1) != 0 || depth >= MAX_VARS) {
                tokens.refuse(FAULT_NAME, tokens.place);
                return;
            }
            tokens.next();
            tokens.expect('(');
            givenVars |= 1 << v;
            for (int k = 0; k < script.sizes[v] && tokens.kind != STOPPED; k++) {
                given[v] = k;
                readTree(depth + 1);
                tokens.expect(k + 1 < script.sizes[v] ? ',' : ')');
            }
            givenVars &= ~(1 << v);
        }

        private boolean isLeafRight() {
            if (givenVars != problem.script.allVars()) {
                return false;
            }
            trial.begin(problem.script, problem.facts, given, 0);
            if (!trial.keepsHard()) {
                return true;
            }
            trial.totals(bound);
            return !Search.isBetter(bound, hand);
        }

        private boolean isBoundRight() {
            Script script = problem.script;
            Arrays.fill(bound, 0);
            for (int r = 0; r < script.counts[RULES]; r++) {
                bound[script.levels[r]] += (long) script.weights[r] * leastOf(r);
            }
            for (int k = MAX_RULES; k < MAX_RULES + script.counts[AIMS]; k++) {
                bound[script.levels[k]] += leastOf(k);
            }
            return !Search.isBetter(bound, hand);
        }

        /** The least that a formula is over all plans with the given values. */
        private int leastOf(int formula) {
            int free = problem.script.masks[formula] & ~givenVars;
            int n = trial.begin(problem.script, problem.facts, given, free);
            int least = Integer.MAX_VALUE;
            for (int i = 0; i < n; i++) {
                least = Math.min(least, trial.run(formula));
                trial.step();
            }
            return least;
        }

        /** How many bytes the proof has that names all vars that are not pinned. */
        private static long lengthFor(Problem q) {
            long length = 1;
            for (int v = q.script.counts[VARS] - 1; v >= 0; v--) {
                if ((q.pins >> v & 1) == 0) {
                    long size = q.script.sizes[v];
                    length = q.script.nameLength(VARS, v) + 2 + size * length + size - 1;
                }
            }
            return length;
        }

        private static void write(Problem q, Row text, int from) {
            int v = from;
            while (v < q.script.counts[VARS] && (q.pins >> v & 1) != 0) {
                v++;
            }
            if (v >= q.script.counts[VARS]) {
                text.push('.', 1);
                return;
            }
            text.push(q.script.names[SORT_BASE[VARS] + v], q.script.nameLength(VARS, v));
            text.push('(', 1);
            for (int k = 0; k < q.script.sizes[v]; k++) {
                if (k > 0) {
                    text.push(',', 1);
                }
                write(q, text, v + 1);
            }
            text.push(')', 1);
        }
    }

    /** Rows of problems that were saved. */
    private static final class Store {
        private final Row bytes = new Row();
        private final int[] ends = new int[MAX_ROWS];
        private int rowCount;
        private int latestFirst = NONE;
        private final int[] incoming = new int[MAX_ROWS];

        private int startOf(int k) {
            return k <= 0 || k > MAX_ROWS ? 0 : ends[k - 1];
        }

        private boolean hasRoom(int moreRows, int moreBytes) {
            return rowCount + moreRows <= MAX_ROWS && bytes.length + moreBytes <= STORE_BYTES;
        }

        private static int tailLength(Script script) {
            return 4 * script.counts[FACTS] + 3 * script.counts[VARS] + 10;
        }

        private int add(Problem q) {
            Script script = q.script;
            if (!hasRoom(1, 3 + script.text.length + tailLength(script))) {
                return FULL;
            }
            int start = bytes.length;
            bytes.push(ROW_MARK, 1);
            bytes.push(script.text.length, 2);
            bytes.append(script.text, 0, script.text.length);
            for (int f = 0; f < script.counts[FACTS]; f++) {
                bytes.push(q.facts[f], 4);
            }
            for (int v = 0; v < script.counts[VARS]; v++) {
                bytes.push(script.valueAt(v, q.places[v]), 1);
                bytes.push(q.costs[v], 2);
            }
            bytes.push(q.pins, 2);
            bytes.push(bytes.sumOf(start, bytes.length), 8);
            latestFirst = rowCount;
            endRow();
            return rowCount - 1;
        }

        private void endRow() {
            ends[rowCount] = bytes.length;
            rowCount++;
        }

        /** Puts the text of the row at a place into a problem: false when there is no such row before the limit. */
        private static boolean readText(Row from, int start, int limit, Problem into) {
            if (start + 3 > limit || from.at(start) != ROW_MARK) {
                return false;
            }
            int length = (int) from.read(start + 1, 2);
            if (start + 3 + length > limit) {
                return false;
            }
            into.script.text.length = 0;
            into.script.text.append(from, start + 3, length);
            return true;
        }

        /** What follows the text of that row: the place behind the row, or NONE when something is not right. */
        private static int readState(Row from, int start, int limit, Problem into) {
            Script script = into.script;
            int place = start + 3 + script.text.length;
            int end = place + tailLength(script);
            if (end > limit || from.read(end - 8, 8) != from.sumOf(start, end - 8)) {
                return NONE;
            }
            into.begin();
            boolean right = true;
            for (int f = 0; f < script.counts[FACTS]; f++) {
                into.facts[f] = (int) from.read(place, 4);
                right &= isFactValue(into.facts[f]);
                place += 4;
            }
            for (int v = 0; v < script.counts[VARS]; v++) {
                int value = (byte) from.read(place, 1);
                into.places[v] = Math.max(0, script.placeOf(v, value));
                into.costs[v] = (int) from.read(place + 1, 2);
                right &= script.placeOf(v, value) != NONE && into.costs[v] <= MAX_COST;
                place += 3;
            }
            into.pins = (int) from.read(place, 2);
            right &= (into.pins & ~script.allVars()) == 0;
            return right ? end : NONE;
        }

        /** Remembers where row k of an export ends, until it is known whether all of that is right. */
        private void noteIncoming(int k, int end) {
            if (k < MAX_ROWS) {
                incoming[k] = end;
            }
        }

        /** Takes over the rows of an export whose ends have been noted. */
        private void addIncoming(Row from, int start, int many) {
            int place = start;
            if (many > 0) {
                latestFirst = rowCount;
            }
            for (int k = 0; k < many; k++) {
                bytes.append(from, place, incoming[k] - place);
                place = incoming[k];
                endRow();
            }
        }

        private void loseBehind(int n) {
            if (latestFirst == NONE) {
                return;
            }
            int start = startOf(latestFirst);
            int kept = latestFirst;
            while (kept < rowCount && ends[kept] - start <= n) {
                kept++;
            }
            rowCount = kept;
            bytes.length = startOf(kept);
            latestFirst = NONE;
        }
    }
}
