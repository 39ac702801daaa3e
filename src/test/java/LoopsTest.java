/** Promises 10 to 13: who leads to whom, loops, and depths. */
public final class LoopsTest {
    private static final Due due = new Due();

    public static void main(String[] args) {
        leads();
        looped();
        depths();
        depthsAroundLoops();
        deepest();
        due.end("LoopsTest");
    }

    private static LanternLogic branches() {
        LanternLogic x = Help.hung("01 22 13 41 64 31 01");
        x.wire(1, 0, 0);
        x.wire(2, 0, 1);
        x.wire(3, 0, 2);
        x.wire(3, 1, 0);
        x.wire(4, 0, 3);
        x.wire(5, 2, 6);
        return x;
    }

    private static void leads() {
        due.part("promise 10");
        LanternLogic x = branches();
        int[] want = {2 + 4 + 8 + 16, 4 + 8 + 16, 8 + 16, 16, 0, 0, 32};
        for (int k = 0; k < 7; k++) {
            due.is("leads(" + k + ")", x.leads(k), want[k]);
        }
        x.wire(1, 1, 3);
        due.is("leads(1) in a loop", x.leads(1), 2 + 4 + 8 + 16);
        due.is("leads(3) in a loop", x.leads(3), 2 + 4 + 8 + 16);
        due.is("leads(4) behind a loop", x.leads(4), 0);
        due.is("leads(7)", x.leads(7), Help.NONE);
        for (int far : Help.FAR) {
            due.is("leads(far)", x.leads(far), Help.NONE);
        }
    }

    private static void looped() {
        due.part("promise 11");
        LanternLogic x = branches();
        due.is("looped()", x.looped(), 0);
        x.wire(1, 2, 3);
        due.is("looped()", x.looped(), 2 + 4 + 8);
        x.wire(5, 0, 5);
        due.is("looped()", x.looped(), 2 + 4 + 8 + 32);
        x.cut(2, 0);
        due.is("looped()", x.looped(), 32);
        LanternLogic ring = Help.hung("61 61 61 61 61 61 61 61 61 61 61 61 61 61 61 61");
        for (int k = 0; k < 16; k++) {
            ring.wire(k, 0, (k + 5) % 16);
        }
        due.is("looped()", ring.looped(), 65535);
        due.is("leads(15)", ring.leads(15), 65535);
        ring.cut(9, 0);
        due.is("looped()", ring.looped(), 0);
        due.is("leads(9)", ring.leads(9), 65535 - 512);
        ring.loops(false);
        due.is("wire(9, 0, 14)", ring.wire(9, 0, 14), Help.REFUSED);
        due.isText("reasons", Help.reasons(ring), "8:14 11:16");
    }

    private static void both(String part, LanternLogic x, int lantern, int want) {
        due.part(part);
        due.is("depth(" + lantern + ")", x.depth(lantern), want);
        due.is("depthAgain(" + lantern + ")", x.depthAgain(lantern), want);
    }

    private static void depths() {
        LanternLogic x = branches();
        int[] want = {0, 2, 5, 6, 10, 1, 0};
        for (int k = 0; k < 7; k++) {
            both("promises 12 and 13", x, k, want[k]);
        }
        both("promises 12 and 13", x, 7, Help.NONE);
        for (int far : Help.FAR) {
            both("promises 12 and 13", x, far, Help.NONE);
        }
        both("a switch with a wick of 4", Help.hung("04"), 0, 0);
        both("a gate without wires", Help.hung("53"), 0, 3);
        LanternLogic y = Help.hung("31 32 34 01");
        y.wire(0, 0, 1);
        y.wire(0, 1, 2);
        y.wire(0, 2, 3);
        both("the deepest of three", y, 0, 5);
        y.wire(1, 2, 2);
        both("the deepest of three", y, 0, 7);
    }

    private static void depthsAroundLoops() {
        LanternLogic x = branches();
        x.wire(2, 0, 2);
        due.is("wire(2, 0, 2)", x.wireOf(2, 0), 1);
        x.cut(2, 0);
        x.wire(2, 0, 2);
        both("ahead of a loop", x, 1, 2);
        both("in a loop", x, 2, Help.NOTHING);
        both("behind a loop", x, 3, Help.NOTHING);
        both("far behind a loop", x, 4, Help.NOTHING);
        both("beside a loop", x, 5, 1);
        due.is("account(10)", x.account(10), 2);
    }

    private static void deepest() {
        LanternLogic x = Help.hung("34 34 34 34 34 34 34 34 34 34 34 34 34 34 34 34");
        for (int k = 0; k < 15; k++) {
            for (int place = 0; place < 3; place++) {
                x.wire(k, place, k + 1);
            }
        }
        both("16 gates in a row, with three wires between two", x, 0, 64);
        both("16 gates in a row, with three wires between two", x, 15, 4);
        due.is("account(10)", x.account(10), 64);
        due.is("account(3)", x.account(3), 45);
        for (int place = 0; place < 3; place++) {
            x.wire(15, place, place);
        }
        both("16 gates in loops", x, 0, Help.NOTHING);
        both("16 gates in loops", x, 9, Help.NOTHING);
        due.is("looped()", x.looped(), 65535);
        due.is("account(10)", x.account(10), 0);
    }
}
