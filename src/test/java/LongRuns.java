/** Lanterns that take long to settle or to repeat, counted out to the ticks at which answers change. */
final class LongRuns {
    /** The number of the gate in flickering lanterns that changes once. */
    static final int LAST = 12;

    private LongRuns() {
    }

    /** A ring that starts at the gate given; its other gates, with the wicks given, hand on what it has. */
    private static int handOn(LanternLogic x, int start, int place, int... wicks) {
        int last = start;
        for (int wick : wicks) {
            int next = x.hang(6, wick);
            x.wire(next, 0, last);
            last = next;
        }
        x.wire(start, place, last);
        return last;
    }

    private static void notRing(LanternLogic x, int length) {
        int fours = (length - 1) / 4;
        int[] wicks = new int[fours];
        java.util.Arrays.fill(wicks, 4);
        handOn(x, x.hang(1, length - 4 * fours), 0, wicks);
    }

    /** Two rings with a not in each, which repeat after twice their lengths. */
    static LanternLogic rings(int first, int second) {
        LanternLogic x = new LanternLogic();
        notRing(x, first);
        notRing(x, second);
        return x;
    }

    /** One flash in 2 ticks, from which each pair of gates makes one in twice as many, and so on up to 256. */
    static LanternLogic counter() {
        LanternLogic x = new LanternLogic();
        int flash = x.hang(1, 1);
        x.wire(flash, 0, flash);
        for (int ticks = 4; ticks <= 256; ticks *= 2) {
            int turned = x.hang(4, 1);
            x.wire(turned, 0, turned);
            x.wire(turned, 1, flash);
            int both = x.hang(2, 1);
            x.wire(both, 0, turned);
            x.wire(both, 1, flash);
            flash = both;
        }
        return x;
    }

    /** Rings that repeat after 252 ticks, and a row of gates that is settled behind 5. */
    static LanternLogic edge() {
        LanternLogic x = rings(18, 14);
        int start = x.hang(0, 1);
        int middle = x.hang(6, 4);
        int end = x.hang(3, 1);
        x.wire(middle, 0, start);
        x.wire(end, 1, middle);
        x.set(start, true);
        return x;
    }

    /**
     * A flash goes round in a ring of 16 ticks and one in a ring of 17; an and meets both 256 ticks
     * behind the first time, and a lantern that it lights for good fills the rings with glow.
     */
    static LanternLogic settling() {
        LanternLogic x = new LanternLogic();
        int start = x.hang(0, 1);
        int slow = x.hang(3, 4);
        int fast = x.hang(3, 4);
        x.wire(slow, 0, start);
        x.wire(fast, 0, start);
        int late = x.account(1);
        handOn(x, slow, 1, 1, 4, 4, 4);
        handOn(x, fast, 1, 4, 4, 4);
        meet(x, slow, late, fast, 1);
        x.set(start, true);
        x.tick(1);
        x.set(start, false);
        return x;
    }

    /** The same, so late that all is settled behind as many ticks, up to 256, or as near as it comes in 150. */
    static LanternLogic settlingBehind(int ticks) {
        LanternLogic x = settling();
        for (int t = 0; t < 150 && x.settlesIn() != ticks; t++) {
            x.tick(1);
        }
        return x;
    }

    private static void meet(LanternLogic x, int slow, int late, int fast, int wick) {
        int both = x.hang(2, wick);
        x.wire(both, 0, late);
        x.wire(both, 1, fast);
        int lit = x.hang(3, 1);
        x.wire(lit, 0, both);
        x.wire(lit, 1, lit);
        x.wire(slow, 2, lit);
        x.wire(fast, 2, lit);
    }

    /** Settled lanterns that take so many ticks, 256 or 257, once their switch 0 is set. */
    static LanternLogic flickering(int ticks) {
        LanternLogic x = new LanternLogic();
        int start = x.hang(0, 1);
        int behind = x.hang(6, 1);
        int flash = x.hang(4, 1);
        x.wire(behind, 0, start);
        x.wire(flash, 0, start);
        x.wire(flash, 1, behind);
        int slow = x.hang(3, 4);
        int fast = x.hang(3, 3);
        x.wire(slow, 0, flash);
        x.wire(fast, 0, flash);
        int end = handOn(x, slow, 1, 4, 4, 4);
        handOn(x, fast, 1, 4, 4, 4);
        meet(x, slow, slow, fast, 4);
        int tail = x.hang(6, 4);
        int last = x.hang(6, ticks - 254);
        x.wire(tail, 0, end);
        x.wire(last, 0, tail);
        return x;
    }
}
