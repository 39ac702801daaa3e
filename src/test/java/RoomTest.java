import com.sun.management.ThreadMXBean;
import java.lang.management.ManagementFactory;

/** All calls of a run live in one room, so that only the constructor may make objects. */
public final class RoomTest {
    private static final int MOST_BYTES_OF_AN_OBJECT = 12_000;

    private static final Due due = new Due();
    private static final ThreadMXBean ROOM = (ThreadMXBean) ManagementFactory.getThreadMXBean();

    private static long sum;

    public static void main(String[] args) {
        due.part("room");
        // The machine itself makes a few objects when lines are run for the first time.
        for (int i = 0; i < 3; i++) {
            callAll(LongRuns.rings(17, 29));
            used();
        }
        LanternLogic x = LongRuns.rings(17, 29);
        long before = used();
        callAll(x);
        long ofCalls = used() - before;
        due.is("bytes of all calls", ofCalls, 0);
        before = used();
        LanternLogic y = new LanternLogic();
        long ofObject = used() - before;
        due.isTrue("an object is small: " + ofObject, ofObject > 0 && ofObject <= MOST_BYTES_OF_AN_OBJECT);
        due.is("account(1)", y.account(1), 0);
        due.isTrue("the answers are looked at", sum != 0);
        due.end("RoomTest");
    }

    private static long used() {
        return ROOM.getThreadAllocatedBytes(Thread.currentThread().getId());
    }

    private static void callAll(LanternLogic x) {
        sum += x.hang(0, 1) + x.hang(3, 2);
        int last = x.account(1) - 1;
        sum += x.wire(last, 0, last - 1) + x.wire(last, 0, last - 1) + x.set(last - 1, true) + x.tick(99);
        sum += x.loops(false) + x.loops(true) + x.cut(last, 0) + x.cut(last, 0);
        for (int k = 0; k <= last; k++) {
            sum += x.lanternOf(k, k % 8) + x.wireOf(k, 0) + x.leads(k) + x.depth(k) + x.depthAgain(k);
            sum += x.flickers(k, last - 1) + x.switchesOf(k) + x.table(k) + x.tableAgain(k) + x.tellLantern(k);
        }
        sum += x.looped() + x.settlesIn() + x.period() + x.periodAgain() + x.tell() + x.character(0);
        run(x, "tick 9;set 0+");
        run(x, "tick 9");
        run(x, "tack");
        for (int what = 0; what <= 12; what++) {
            sum += x.account(what) + x.reason(what, true) + x.reason(what, false);
        }
        sum += x.isBalanced() + (long) x.meanWick() + (long) x.glowShare();
        sum += x.undo() + x.save() + x.tick(1) + x.restore() + x.undo();
    }

    private static void run(LanternLogic x, String orders) {
        for (int i = 0; i < orders.length(); i++) {
            sum += x.append(orders.charAt(i));
        }
        sum += x.run();
    }
}
