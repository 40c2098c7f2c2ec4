import com.sun.management.ThreadMXBean;
import java.lang.management.ManagementFactory;

/** All calls of a run live in one room: an object makes its rows once, and no call makes more. */
public final class RoomTest {
    private static final Due due = new Due("RoomTest");
    private static final ThreadMXBean bytes = (ThreadMXBean) ManagementFactory.getThreadMXBean();

    public static void main(String[] args) {
        dearCalls();
        long before = bytes.getCurrentThreadAllocatedBytes();
        long answered = dearCalls();
        long made = bytes.getCurrentThreadAllocatedBytes() - before;
        due.holds("a run of dear calls made " + made + " bytes", made < 40_000);
        due.holds("they answered", answered != 0);
        due.end();
    }

    /** 512 calls on one object, each kind of call that asks among them. */
    private static long dearCalls() {
        GriefCranes x = new GriefCranes();
        long sum = 0;
        int calls = 0;
        for (int c = 0; c < 6; c++, calls++) sum += x.crane(6 - c, c + 2);
        for (int t = 0; t < 8; t++, calls++) sum += x.thing(9 + 3 * t, t % 6);
        for (int i = 0; i < 60; i++, calls += 2) {
            sum += x.feed("strong 9 (p<3|k>2)&!x=4;bear 90".charAt(i % 31));
            if (i % 31 == 30) sum += x.firm();
            else calls--;
        }
        for (int i = 0; i < 5; i++, calls++) sum += x.see(i, 12, 2);
        for (int i = 0; i < 10; i++, calls++) sum += x.plan(0, 0);
        sum += x.image();
        while (calls < 512) {
            sum += x.load(calls % 8, 7) + x.load(calls % 8, 6) + x.can(calls % 6, 0);
            sum += x.best(20, 0) + x.best(12, 1) + x.odds(calls % 8, 20, 0) + x.ends(0) + x.on(60, 0);
            sum += x.act(calls % 6, 2, calls) + x.tape(calls % 6, calls % 5, 60) + x.judge(0, 0) + x.undo();
            calls += 12;
        }
        return sum;
    }
}
