import java.util.Arrays;

/** Edges of THE STORE in "Terms", and of promises 59 to 66. */
final class StoreEdges {
    private static final String SMALL = "var a in 0..1;";
    private static final int SMALL_ROW = 30;
    private static final String TEXT = "fact f = 3; fact g = -1; var a in -2..1; var b in {0, 99, -99};";
    private static final int ROOM = 19990;

    private StoreEdges() {
    }

    static void run() {
        rowsOfBytes();
        allPins();
        fullOfRows();
        fullOfBytes();
        loads();
        bytesOfTheStore();
        crashesOfSaves();
        crashesOfBrings();
        exports();
        wrongExports();
        wrongRows();
        edgesOfRows();
        fullBrings();
    }

    // ---- rows and exports as the document tells them

    private static String number(long w, int n) {
        StringBuilder s = new StringBuilder();
        for (int i = n - 1; i >= 0; i--) {
            s.append((char) (w >> 8 * i & 255));
        }
        return s.toString();
    }

    private static String summed(String s) {
        long sum = 0;
        for (int i = 0; i < s.length(); i++) {
            sum = Long.rotateLeft(sum ^ s.charAt(i), 53) * 0xC2B2AE3D27D4EB4FL;
        }
        return s + number(sum, 8);
    }

    /** A row without its sum; of each var its value and its cost. */
    private static String head(String text, int[] facts, int[][] vars, int pins) {
        StringBuilder s = new StringBuilder();
        s.append((char) 211).append(number(text.length(), 2)).append(text);
        for (int fact : facts) {
            s.append(number(fact, 4));
        }
        for (int[] one : vars) {
            s.append(number(one[0], 1)).append(number(one[1], 2));
        }
        return s + number(pins, 2);
    }

    private static String row(String text, int[] facts, int[][] vars, int pins) {
        return summed(head(text, facts, vars, pins));
    }

    private static String export(String... rows) {
        return summed(number(rows.length, 2) + String.join("", rows));
    }

    private static String smallRow(int value) {
        return row(SMALL, new int[0], new int[][] {{value, 1}}, 0);
    }

    private static String textOf(int length) {
        return SMALL + " ".repeat(length - SMALL.length());
    }

    private static void store(PlanningHouse x, String... rows) {
        String all = String.join("", rows);
        Edges.due(x, "rows()", rows.length);
        Edges.due(x, "size()", all.length());
        for (int i = 0; i < all.length(); i++) {
            Edges.due("byteAt(" + i + ")", x.byteAt(i), all.charAt(i));
        }
        Edges.due("byteAt(" + all.length() + ")", x.byteAt(all.length()), Edges.NONE);
    }

    private static void tape(PlanningHouse x, String bytes) {
        for (int i = 0; i < bytes.length(); i++) {
            Edges.due("tapeAt(" + i + ")", x.tapeAt(i), bytes.charAt(i));
        }
        Edges.due("tapeAt(" + bytes.length() + ")", x.tapeAt(bytes.length()), Edges.NONE);
    }

    private static PlanningHouse onTape(String bytes) {
        PlanningHouse x = Edges.with(TEXT);
        x.save(0);
        Edges.type(x, bytes);
        return x;
    }

    // ---- save

    private static void rowsOfBytes() {
        Edges.promise(59, "a ROW of the problem as it is");
        PlanningHouse x = Edges.with(TEXT);
        Edges.due(x, "save(0)", 0);
        String first = row(TEXT, new int[] {3, -1}, new int[][] {{-2, 1}, {0, 1}}, 0);
        store(x, first);
        x.change(0, 0, -9999);
        x.change(0, 1, 9999);
        x.put(0, 0, -1);
        x.put(0, 1, -99);
        x.weigh(0, 0, 0);
        x.weigh(0, 1, 1000);
        x.pin(0, 1, true);
        x.future(0, 7);
        x.told(0, 0, 0, 5);
        Edges.due(x, "save(0)", 1);
        String second = row(TEXT, new int[] {-9999, 9999}, new int[][] {{-1, 0}, {-99, 1000}}, 2);
        store(x, first, second);
        x.put(0, 1, 99);
        x.weigh(0, 0, 255);
        x.weigh(0, 1, 256);
        x.change(0, 0, 0);
        x.pin(0, 0, true);
        Edges.due(x, "save(0)", 2);
        String third = row(TEXT, new int[] {0, 9999}, new int[][] {{-1, 255}, {99, 256}}, 3);
        store(x, first, second, third);
        Edges.promise(59, "what is in the store does not change with its problem");
        x.drop(0);
        store(x, first, second, third);
        Edges.promise(59, "NONE without the problem; nothing changes");
        Edges.Maker maker = () -> onTape("x");
        Edges.refused(maker, Edges.NONE, "save(1)", "save(-1)", "save(3)", "save(4)", "save(MIN)", "save(MAX)");
        Edges.due(x, "save(0)", Edges.NONE);
        Edges.promise(59, "the text is as it was typed, with blanks and remarks");
        String odd = "\n var  a in 0..1;%\u00ff\u0000;\n\t ";
        x = Edges.with(odd);
        Edges.due(x, "save(0)", 0);
        store(x, row(odd, new int[0], new int[][] {{0, 1}}, 0));
    }

    private static void allPins() {
        Edges.terms("two bytes: bits of pinned vars");
        StringBuilder text = new StringBuilder();
        int[][] vars = new int[12][];
        for (int v = 0; v < 12; v++) {
            text.append("var v").append(v).append(" in {").append(v).append("};");
            vars[v] = new int[] {v, 1};
        }
        PlanningHouse x = Edges.with(text.toString());
        String[] rows = new String[13];
        for (int n = 0; n <= 12; n++) {
            rows[n] = row(text.toString(), new int[0], vars, (1 << n) - 1);
            Edges.due(x, "save(0)", n);
            x.pin(0, n, true);
        }
        store(x, rows);
        x = onTape(export(rows[12]));
        Edges.due(x, "bring()", 1);
        x = onTape(export(row(text.toString(), new int[0], vars, 1 << 12)));
        Edges.due(x, "bring()", Edges.NONE);
    }

    private static PlanningHouse hundred() {
        PlanningHouse x = Edges.with(SMALL);
        for (int k = 0; k < 100; k++) {
            x.put(0, 0, k % 2);
            x.save(0);
        }
        Edges.type(x, "t");
        return x;
    }

    private static void fullOfRows() {
        Edges.promise(59, "FULL: there are 100; nothing changes");
        PlanningHouse x = Edges.with(SMALL);
        for (int k = 0; k < 100; k++) {
            Edges.due(x, "rows()", k);
            Edges.due(x, "save(0)", k);
        }
        Edges.due(x, "rows()", 100);
        Edges.due(x, "size()", 100 * SMALL_ROW);
        Edges.refused(StoreEdges::hundred, "save(0)", Edges.FULL);
        Edges.refused(StoreEdges::hundred, "save(1)", Edges.NONE);
        Edges.promise(60, "each of 100 rows can be loaded");
        x = hundred();
        Edges.due(x, "load(0)", 1);
        Edges.due(x, "load(99)", 2);
        Edges.due(x, "load(100)", Edges.NONE);
        Edges.plan(x, 1, 0);
        Edges.plan(x, 2, 1);
    }

    private static void fullOfBytes() {
        Edges.promise(59, "FULL: all rows together have at most 20000 - 10 bytes");
        PlanningHouse x = Edges.with(textOf(ROOM - 16));
        Edges.due(x, "save(0)", 0);
        Edges.due(x, "size()", ROOM);
        Edges.due(x, "save(0)", Edges.FULL);
        Edges.due(x, "size()", ROOM);
        Edges.due(x, "rows()", 1);
        Edges.due(x, "take()", 20000);
        x = Edges.with(textOf(ROOM - 15));
        Edges.due(x, "save(0)", Edges.FULL);
        Edges.due(x, "rows()", 0);
        Edges.due(x, "size()", 0);
        Edges.due(x, "byteAt(0)", Edges.NONE);
        x = Edges.with(textOf(20000));
        Edges.due(x, "save(0)", Edges.FULL);
        // A small row, and one that fills all but one byte of what is left, or all of it, or one byte more.
        for (int over = -1; over <= 1; over++) {
            x = Edges.with(SMALL);
            Edges.due(x, "save(0)", 0);
            Edges.due("problem()", Edges.read(x, textOf(ROOM - SMALL_ROW - 16 + over)), 1);
            Edges.due(x, "save(1)", over > 0 ? Edges.FULL : 1);
            Edges.due(x, "size()", over > 0 ? SMALL_ROW : ROOM + over);
            Edges.due(x, "save(0)", over > 0 ? 1 : Edges.FULL);
        }
    }

    // ---- load, rows, size, byteAt

    private static PlanningHouse fourAndARow() {
        PlanningHouse x = onTape("a");
        for (int p = 1; p < 4; p++) {
            x.load(0);
        }
        return x;
    }

    private static void loads() {
        Edges.promise(60, "NONE when there is no such row; nothing changes");
        Edges.Maker maker = () -> onTape("a");
        Edges.refused(maker, Edges.NONE, "load(1)", "load(-1)", "load(100)", "load(MIN)", "load(MAX)");
        Edges.refused(PlanningHouse::new, Edges.NONE, "load(0)", "load(-1)");
        Edges.promise(60, "FULL: there are 4; nothing changes");
        Edges.refused(StoreEdges::fourAndARow, "load(0)", Edges.FULL);
        Edges.refused(StoreEdges::fourAndARow, "load(1)", Edges.NONE);
        Edges.promise(60, "its number is the least that is free");
        PlanningHouse x = fourAndARow();
        x.drop(2);
        x.drop(1);
        Edges.due(x, "load(0)", 1);
        Edges.due(x, "load(0)", 2);
        Edges.due(x, "load(0)", Edges.FULL);
        Edges.promise(60, "row k becomes a problem as it was saved, without futures");
        x = Edges.with(TEXT);
        x.change(0, 0, -9999);
        x.put(0, 0, 1);
        x.put(0, 1, -99);
        x.weigh(0, 1, 1000);
        x.weigh(0, 0, 0);
        x.pin(0, 1, true);
        x.future(0, 7);
        Edges.due(x, "save(0)", 0);
        Edges.due(x, "load(0)", 1);
        Edges.due(x, "count(1, 7)", 0);
        Edges.due(x, "count(1, 8)", TEXT.length());
        Edges.due(x, "fact(1, 0)", -9999);
        Edges.due(x, "fact(1, 1)", -1);
        Edges.plan(x, 1, 1, -99);
        Edges.due(x, "weigh(1, 0, 1)", 0);
        Edges.due(x, "weigh(1, 1, 1)", 1000);
        Edges.due(x, "pin(1, 0, true)", 0);
        Edges.due(x, "pin(1, 1, false)", 1);
        Edges.promise(60, "what it was read from stays as it is");
        Edges.due(x, "count(0, 7)", 1);
        Edges.due(x, "load(0)", 2);
        Edges.due(x, "pin(2, 1, false)", 1);
        Edges.promise(7, "load() and bring() read no text for fault()");
        x = Edges.with(SMALL);
        x.save(0);
        Edges.due("problem()", Edges.read(x, "var b in 0..zz;"), -13);
        Edges.due(x, "fault()", 2);
        Edges.due(x, "load(0)", 1);
        Edges.due(x, "fault()", 2);
        Edges.due(x, "take()", SMALL_ROW + 10);
        Edges.due(x, "bring()", 1);
        Edges.due(x, "fault()", 2);
        x.cut(0);
        Edges.type(x, export(summed("\u00d3\u0000\u0001;" + number(0, 2))));
        Edges.due(x, "bring()", Edges.NONE);
        Edges.due(x, "fault()", 2);
    }

    private static void bytesOfTheStore() {
        Edges.Maker maker = () -> onTape("a");
        Edges.promise(61, "0 of a new object, then how many rows");
        Edges.due(new PlanningHouse(), "rows()", 0);
        Edges.refused(maker, "rows()", 1);
        Edges.promise(62, "0 of a new object, then how many bytes all rows have");
        Edges.due(new PlanningHouse(), "size()", 0);
        int size = 3 + TEXT.length() + 8 + 6 + 10;
        Edges.refused(maker, "size()", size);
        Edges.promise(63, "NONE when there is no byte i");
        Edges.due(new PlanningHouse(), "byteAt(0)", Edges.NONE);
        Edges.refused(maker, Edges.NONE, "byteAt(-1)", "byteAt(" + size + ")", "byteAt(MIN)", "byteAt(MAX)");
        Edges.promise(63, "the first byte and the last, and those where rows meet");
        Edges.refused(maker, "byteAt(0)", 211);
        PlanningHouse x = Edges.with(SMALL);
        x.save(0);
        x.put(0, 0, 1);
        x.save(0);
        store(x, smallRow(0), smallRow(1));
    }

    // ---- crash

    private static PlanningHouse saved(int times) {
        PlanningHouse x = Edges.with(SMALL);
        for (int k = 0; k < times; k++) {
            x.save(0);
        }
        return x;
    }

    private static void crash(PlanningHouse x, String call, int rows) {
        Edges.due(x, call, rows);
        Edges.due(x, "rows()", rows);
        Edges.due(x, "size()", rows * SMALL_ROW);
        Edges.due(x, "byteAt(" + rows * SMALL_ROW + ")", Edges.NONE);
        Edges.due(x, "load(" + rows + ")", Edges.NONE);
    }

    private static void crashesOfSaves() {
        Edges.promise(64, "NONE: n is below 0; nothing changes");
        Edges.refused(() -> saved(2), Edges.NONE, "crash(-1)", "crash(MIN)");
        Edges.refused(PlanningHouse::new, Edges.NONE, "crash(-1)");
        Edges.promise(64, "of the bytes that the latest save() wrote the first n are there; a row not wholly there is gone");
        for (int n : new int[] {0, 1, 28, 29}) {
            crash(saved(2), "crash(" + n + ")", 1);
            crash(saved(1), "crash(" + n + ")", 0);
        }
        for (String n : new String[] {"30", "31", "60", "MAX"}) {
            crash(saved(2), "crash(" + n + ")", 2);
        }
        Edges.promise(64, "without such a call, since the latest crash(), nothing is gone");
        Edges.refused(PlanningHouse::new, "crash(0)", 0);
        PlanningHouse x = saved(3);
        crash(x, "crash(0)", 2);
        crash(x, "crash(0)", 2);
        Edges.due(x, "save(0)", 2);
        crash(x, "crash(30)", 3);
        crash(x, "crash(0)", 3);
        Edges.promise(64, "a crash() that answers NONE is none");
        x = saved(3);
        Edges.due(x, "crash(-1)", Edges.NONE);
        crash(x, "crash(0)", 2);
        Edges.promise(64, "a save() that makes no row is not the latest");
        x = saved(1);
        Edges.due(x, "save(1)", Edges.NONE);
        crash(x, "crash(0)", 0);
        x = hundred();
        Edges.due(x, "save(0)", Edges.FULL);
        crash(x, "crash(29)", 99);
        Edges.due(x, "save(0)", 99);
        crash(x, "crash(30)", 100);
        crash(hundred(), "crash(MAX)", 100);
        Edges.promise(64, "the store goes on behind what is there");
        x = saved(2);
        x.crash(5);
        x.put(0, 0, 1);
        Edges.due(x, "save(0)", 1);
        store(x, smallRow(0), smallRow(1));
        Edges.promise(64, "problems and the tape are not touched");
        x = saved(1);
        Edges.type(x, "ab");
        x.crash(0);
        Edges.due(x, "cut(0)", 2);
        Edges.due(x, "count(0, 1)", 1);
    }

    private static PlanningHouse brought(int before, int rows) {
        PlanningHouse x = saved(before);
        String[] all = new String[rows];
        for (int k = 0; k < rows; k++) {
            all[k] = smallRow(k % 2);
        }
        Edges.type(x, export(all));
        Edges.due(x, "bring()", rows);
        return x;
    }

    private static void crashesOfBrings() {
        Edges.promise(64, "of the rows of the latest bring() those that are wholly there stay");
        int[] bytes = {0, 29, 30, 59, 60, 89, 90, 91};
        for (int n : bytes) {
            crash(brought(2, 3), "crash(" + n + ")", 2 + Math.min(3, n / SMALL_ROW));
            crash(brought(0, 3), "crash(" + n + ")", Math.min(3, n / SMALL_ROW));
        }
        crash(brought(2, 3), "crash(MAX)", 5);
        Edges.promise(64, "a bring() that makes no row is not the latest");
        crash(brought(2, 0), "crash(0)", 1);
        PlanningHouse x = saved(2);
        Edges.type(x, "no export, this");
        Edges.due(x, "bring()", Edges.NONE);
        crash(x, "crash(0)", 1);
        x = hundred();
        x.cut(0);
        Edges.type(x, export(smallRow(0)));
        Edges.due(x, "bring()", Edges.FULL);
        crash(x, "crash(0)", 99);
        Edges.promise(64, "only the latest call counts");
        x = brought(0, 2);
        x.save(0);
        crash(x, "crash(0)", 2);
        x = brought(3, 1);
        crash(x, "crash(0)", 3);
        crash(x, "crash(0)", 3);
    }

    // ---- take, bring

    private static void exports() {
        Edges.promise(65, "the tape becomes AN EXPORT, whatever it was");
        PlanningHouse x = new PlanningHouse();
        Edges.type(x, "what was there before, which is longer");
        Edges.due(x, "take()", 10);
        tape(x, export());
        x = saved(1);
        x.put(0, 0, 1);
        x.save(0);
        Edges.due(x, "take()", 10 + 2 * SMALL_ROW);
        tape(x, export(smallRow(0), smallRow(1)));
        Edges.due(x, "take()", 10 + 2 * SMALL_ROW);
        Edges.promise(65, "the store stays, and what crash() goes by");
        store(x, smallRow(0), smallRow(1));
        crash(x, "crash(0)", 1);
        x = hundred();
        Edges.due(x, "take()", 10 + 100 * SMALL_ROW);
        Edges.due(x, "tapeAt(0)", 0);
        Edges.due(x, "tapeAt(1)", 100);
        Edges.promise(66, "its rows come behind those that there are: how many; the tape is empty then");
        x = saved(1);
        Edges.type(x, export(smallRow(1), smallRow(0), smallRow(1)));
        Edges.due(x, "bring()", 3);
        Edges.due(x, "cut(0)", 0);
        store(x, smallRow(0), smallRow(1), smallRow(0), smallRow(1));
        Edges.promise(66, "an export of no rows is one");
        Edges.type(x, export());
        Edges.due(x, "bring()", 0);
        Edges.due(x, "cut(0)", 0);
        store(x, smallRow(0), smallRow(1), smallRow(0), smallRow(1));
        Edges.promise(66, "rows that came can be loaded");
        Edges.due(x, "load(3)", 1);
        Edges.plan(x, 1, 1);
    }

    /** That the tape is no export, and nothing changes. */
    private static void none(String bytes) {
        Edges.refused(() -> onTape(bytes), "bring()", Edges.NONE);
    }

    private static void wrongExports() {
        Edges.promise(66, "NONE, and nothing changes: it ends too early or has more");
        String one = export(smallRow(0));
        for (int n = 0; n < one.length(); n++) {
            none(one.substring(0, n));
        }
        for (int n = 0; n < 10; n++) {
            none(export().substring(0, n));
        }
        none(one + "\u0000");
        none(export() + "\u0000");
        none(summed(number(0, 2) + smallRow(0)));
        none(summed(number(1, 2)));
        none(summed(number(2, 2) + smallRow(0)));
        none(summed(number(1, 2) + smallRow(0) + smallRow(0)));
        none(summed(number(1, 2) + smallRow(0) + "x"));
        none(summed(number(257, 2) + smallRow(0)));
        none(summed(number(65535, 2) + smallRow(0)));
        none(summed(number(1, 1)));
        none(summed(""));
        Edges.promise(66, "NONE, and nothing changes: a sum is not right");
        for (int i = 0; i < one.length(); i++) {
            none(one.substring(0, i) + (char) (one.charAt(i) ^ 1) + one.substring(i + 1));
            none(one.substring(0, i) + (char) (one.charAt(i) ^ 128) + one.substring(i + 1));
        }
        String row = smallRow(0);
        none(export(row.substring(0, 29) + (char) (row.charAt(29) ^ 1)));
        none(export(row.substring(0, 22) + (char) (row.charAt(22) ^ 128) + row.substring(23)));
        none(export(smallRow(0), row.substring(0, 29) + (char) (row.charAt(29) ^ 1)));
    }

    private static void wrongRows() {
        int[] facts = {3, -1};
        int[][] vars = {{-2, 1}, {0, 1}};
        Edges.promise(66, "NONE, and nothing changes: a first byte 211 is not right");
        String right = head(TEXT, facts, vars, 0);
        for (int first : new int[] {210, 212, 0, 255}) {
            none(export(summed((char) first + right.substring(1))));
        }
        Edges.promise(66, "NONE, and nothing changes: a text is not right");
        for (String text : new String[] {"", " ", "var a in 0..1", "var a in 0..1;?", "var a in 0..100;", "fact f = 1;",
            "var a in 1..0;"}) {
            none(export(summed(head(text, new int[0], new int[][] {{0, 1}}, 0))));
        }
        none(export(summed(head("fact f = 1;", new int[] {1}, new int[0][], 0))));
        Edges.promise(66, "NONE, and nothing changes: a text is told longer or shorter than it is");
        for (int n : new int[] {0, TEXT.length() - 1, TEXT.length() + 1, 255, 256, 65535}) {
            none(export(summed(right.substring(0, 1) + number(n, 2) + right.substring(3))));
        }
        Edges.promise(66, "NONE, and nothing changes: something is missing or too much in a row");
        none(export(row(TEXT, new int[] {3}, vars, 0)));
        none(export(row(TEXT, new int[] {3, -1, 0}, vars, 0)));
        none(export(row(TEXT, facts, new int[][] {{-2, 1}}, 0)));
        none(export(row(TEXT, facts, new int[][] {{-2, 1}, {0, 1}, {0, 1}}, 0)));
        Edges.promise(66, "NONE, and nothing changes: a fact is not -9999 .. 9999");
        for (int fact : new int[] {10000, -10000, Integer.MAX_VALUE, Integer.MIN_VALUE, 1 << 24, 65535}) {
            none(export(row(TEXT, new int[] {fact, -1}, vars, 0)));
            none(export(row(TEXT, new int[] {3, fact}, vars, 0)));
        }
        Edges.promise(66, "NONE, and nothing changes: a value is none of its var's range");
        for (int value : new int[] {-3, 2, 127, -128}) {
            none(export(row(TEXT, facts, new int[][] {{value, 1}, {0, 1}}, 0)));
        }
        for (int value : new int[] {1, -1, 98, 100, -98, -100, 128}) {
            none(export(row(TEXT, facts, new int[][] {{-2, 1}, {value, 1}}, 0)));
        }
        Edges.promise(66, "NONE, and nothing changes: a cost is not 0 .. 1000");
        for (int cost : new int[] {1001, 32767, 32768, 65535}) {
            none(export(row(TEXT, facts, new int[][] {{-2, cost}, {0, 1}}, 0)));
            none(export(row(TEXT, facts, new int[][] {{-2, 1}, {0, cost}}, 0)));
        }
        Edges.promise(66, "NONE, and nothing changes: a pinned one is no var");
        for (int pins : new int[] {4, 7, 256, 4096, 32768, 65535}) {
            none(export(row(TEXT, facts, vars, pins)));
        }
        Edges.promise(66, "NONE, and nothing changes: a wrong row behind a right one of the same text");
        String small = head(SMALL, new int[0], new int[][] {{1, 1}}, 0);
        none(export(smallRow(0), summed((char) 210 + small.substring(1))));
        for (int n : new int[] {0, 13, 15, 256, 65535}) {
            none(export(smallRow(0), summed(small.substring(0, 1) + number(n, 2) + small.substring(3))));
            none(export(smallRow(0), summed(small.substring(0, 1) + number(n, 2) + small.substring(3)), smallRow(1)));
        }
        Edges.promise(66, "NONE, and nothing changes: also when only the last row is wrong");
        none(export(smallRow(0), smallRow(1), row(TEXT, facts, vars, 4)));
        none(export(row(TEXT, facts, vars, 4), smallRow(0), smallRow(1)));
    }

    private static void edgesOfRows() {
        Edges.promise(66, "facts -9999 and 9999, first and last values, costs 0 and 1000, and all pins are right");
        int[][][] states = {{{-2, 0}, {0, 1000}}, {{1, 1000}, {99, 0}}, {{-1, 255}, {-99, 256}}};
        int[][] facts = {{-9999, 9999}, {9999, -9999}, {0, -1}};
        for (int i = 0; i < states.length; i++) {
            for (int pins = 0; pins < 4; pins++) {
                String row = row(TEXT, facts[i], states[i], pins);
                PlanningHouse x = new PlanningHouse();
                Edges.type(x, export(row));
                Edges.due(x, "bring()", 1);
                store(x, row);
                Edges.due(x, "load(0)", 0);
                for (int k = 0; k < 2; k++) {
                    Edges.due(x, "fact(0, " + k + ")", facts[i][k]);
                    Edges.due(x, "value(0, " + k + ")", states[i][k][0]);
                    Edges.due(x, "weigh(0, " + k + ", 1)", states[i][k][1]);
                    Edges.due(x, "pin(0, " + k + ", true)", pins >> k & 1);
                }
            }
        }
    }

    private static void fullBrings() {
        Edges.promise(66, "FULL, and nothing changes: there would be more than 100 rows");
        for (int before : new int[] {0, 1, 98, 99, 100}) {
            for (int rows : new int[] {100 - before, 101 - before}) {
                String[] all = new String[rows];
                Arrays.fill(all, smallRow(1));
                String bytes = export(all);
                Edges.Maker maker = () -> {
                    PlanningHouse x = saved(before);
                    Edges.type(x, bytes);
                    return x;
                };
                if (before + rows > 100) {
                    Edges.refused(maker, "bring()", Edges.FULL);
                } else {
                    PlanningHouse x = maker.make();
                    Edges.due(x, "bring()", rows);
                    Edges.due(x, "rows()", 100);
                    Edges.due(x, "cut(0)", 0);
                }
            }
        }
        Edges.promise(66, "FULL, and nothing changes: too many bytes");
        for (int over = -1; over <= 1; over++) {
            String text = textOf(ROOM - SMALL_ROW - 16 + over);
            String bytes = export(row(text, new int[0], new int[][] {{1, 7}}, 1));
            PlanningHouse x = saved(1);
            Edges.type(x, bytes);
            Edges.due(x, "bring()", over > 0 ? Edges.FULL : 1);
            Edges.due(x, "rows()", over > 0 ? 1 : 2);
            Edges.due(x, "size()", over > 0 ? SMALL_ROW : ROOM + over);
            Edges.due(x, "cut(0)", over > 0 ? bytes.length() : 0);
        }
        Edges.promise(66, "FULL is looked at behind all that makes NONE");
        String wrong = row(SMALL, new int[0], new int[][] {{2, 1}}, 0);
        Edges.Maker maker = () -> {
            PlanningHouse x = hundred();
            x.cut(0);
            Edges.type(x, export(smallRow(0), wrong));
            return x;
        };
        Edges.refused(maker, "bring()", Edges.NONE);
        String[] many = new String[150];
        Arrays.fill(many, smallRow(1));
        Edges.refused(() -> onTape(export(many)), "bring()", Edges.FULL);
        many[149] = wrong;
        Edges.refused(() -> onTape(export(many)), "bring()", Edges.NONE);
        many[149] = smallRow(0);
        Edges.refused(() -> onTape(export(many) + "x"), "bring()", Edges.NONE);
    }
}
