import com.sun.management.ThreadMXBean;
import java.lang.management.ManagementFactory;

/**
 * The dearest calls on the greatest problems: what they make stays far below the room of a run, and they end soon.
 * The room is counted in bytes here, eight to an element at the most.
 */
public final class RoomTest {
    private static int wrong = 0;

    private static void type(PlanningHouse x, String s) {
        for (int i = 0; i < s.length(); i += 8) {
            int n = Math.min(8, s.length() - i);
            long w = 0;
            for (int j = 0; j < n; j++) {
                w = w << 8 | s.charAt(i + j);
            }
            x.type(w, n);
        }
    }

    /** 20000 plans, and as many tokens as may be or nearly so. */
    private static String greatest() {
        StringBuilder s = new StringBuilder("fact f = 40; var a in 1..20; var b in 1..20; var c in 1..10; var d in 1..5;");
        for (int r = 0; r < 12; r++) {
            s.append("rule r").append(r).append(" at 0*").append(r + 1).append(": a + b * c - d # ").append(r).append(";");
        }
        s.append("rule s at 1*1: busy(3 : (a,1,1)");
        for (int k = 0; k < 39; k++) {
            s.append(",(").append("abcd".charAt(k % 4)).append(",2,1)");
        }
        s.append("); rule t at 2*1: apart((a,b,1,1)");
        for (int k = 0; k < 30; k++) {
            s.append(",(").append("abcd".charAt(k % 4)).append(",").append("abcd".charAt(k / 4 % 4)).append(",2,1)");
        }
        return s.append("); aim m at 1: a * 1000 + b * 50 + c * 5 + d; aim n at 2: - a * 1000 - b * 50 - c * 5 - d;").toString();
    }

    private static void dearCalls(PlanningHouse x) {
        for (int i = 0; i < 12; i++) {
            x.solve(0);
            x.bests(0);
            x.has(0, 1, 3, true);
            x.front(0);
            x.frontAt(0, 3, 1);
            x.near(0, false);
            x.reach(0);
            x.isLeft(0, 0, 1);
            x.clash(0);
            x.fewest(0);
            x.relax(0);
            x.without(0, i, 1);
            x.whyNot(0, 0, 2, 1);
            x.because(0, 0, 2);
            x.mend(0, -1);
            x.search(0, i % 4, 7, i, 2000);
            x.solve(0);
            x.prove(0);
            x.check(0);
            x.save(0);
            x.take();
            x.bring();
            x.load(0);
            x.drop(1);
            x.shown(0, 5, 9);
            x.change(0, 0, i);
        }
        for (int u = 0; u < 6; u++) {
            x.future(0, 5);
            x.told(0, u, 0, u);
        }
        x.robust(0);
        x.regret(0, 1);
    }

    private static void limit(String what, long is, long most) {
        System.out.println(what + ": " + is + " (at most " + most + ")");
        if (is > most) {
            wrong++;
        }
    }

    public static void main(String[] args) {
        ThreadMXBean bean = (ThreadMXBean) ManagementFactory.getThreadMXBean();
        long thread = Thread.currentThread().getId();
        new PlanningHouse().cut(0); // so that the class is there before anything is counted
        long before = bean.getThreadAllocatedBytes(thread);
        PlanningHouse x = new PlanningHouse();
        limit("bytes of a new object", bean.getThreadAllocatedBytes(thread) - before, 40000);
        type(x, greatest());
        int p = x.problem();
        if (p != 0) {
            System.out.println("problem() answered " + p + ", fault " + x.fault());
            wrong++;
        }
        long start = System.nanoTime();
        before = bean.getThreadAllocatedBytes(thread);
        dearCalls(x);
        limit("bytes of dear calls", bean.getThreadAllocatedBytes(thread) - before, 3000000);
        limit("seconds of dear calls", (System.nanoTime() - start) / 1000000000, 60);
        before = bean.getThreadAllocatedBytes(thread);
        dearCalls(x);
        limit("bytes of the same calls again", bean.getThreadAllocatedBytes(thread) - before, 3000);
        if (wrong != 0) {
            System.exit(1);
        }
    }
}
