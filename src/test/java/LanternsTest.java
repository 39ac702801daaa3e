/** Promises 1 to 9: lanterns, wires, switches, and ticks. */
public final class LanternsTest {
    private static final Due due = new Due();

    public static void main(String[] args) {
        newObject();
        hang();
        wire();
        wireRefusedForLoop();
        cut();
        set();
        loops();
        tick();
        tickOfEachKind();
        tickWithWicks();
        lanternOf();
        wireOf();
        due.end("LanternsTest");
    }

    private static void newObject() {
        due.part("promise 1");
        LanternLogic x = new LanternLogic();
        for (int what = 0; what <= 12; what++) {
            due.is("account(" + what + ")", x.account(what), what == 6 ? 1 : 0);
        }
        due.is("tell()", x.tell(), 0);
        due.is("looped()", x.looped(), 0);
        due.is("undo()", x.undo(), Help.NOTHING);
        due.is("restore()", x.restore(), Help.NOTHING);
        due.is("reason(0, false)", x.reason(0, false), Help.NOTHING);
        due.is("character(0)", x.character(0), Help.NONE);
        due.is("lanternOf(0, 0)", x.lanternOf(0, 0), Help.NONE);
        due.is("settlesIn()", x.settlesIn(), 0);
        due.is("period()", x.period(), 1);
        due.is("periodAgain()", x.periodAgain(), 1);
        due.is("loops(true)", x.loops(true), 1);
        LanternLogic y = new LanternLogic();
        y.hang(0, 1);
        due.is("account(1) of another object", x.account(1), 0);
    }

    private static void hang() {
        due.part("promise 2");
        LanternLogic x = new LanternLogic();
        for (int kind : new int[] {-1, 7, 8, Integer.MIN_VALUE, Integer.MAX_VALUE}) {
            due.is("hang(" + kind + ", 1)", x.hang(kind, 1), Help.BAD);
        }
        for (int wick : new int[] {-1, 0, 5, Integer.MIN_VALUE, Integer.MAX_VALUE}) {
            due.is("hang(0, " + wick + ")", x.hang(0, wick), Help.BAD);
            due.is("hang(3, " + wick + ")", x.hang(3, wick), Help.BAD);
        }
        due.is("account(1)", x.account(1), 0);
        due.is("account(12)", x.account(12), 0);
        due.isText("reasons", Help.reasons(x), "");
        for (int k = 0; k < 16; k++) {
            due.is("hang", x.hang(k % 7, k % 4 + 1), k);
            due.isText("a new lantern", Help.lantern(x, k), k % 7 + " " + (k % 4 + 1) + " 0 0 0 0 0 0 -15 -15 -15 ");
        }
        due.is("hang(0, 1)", x.hang(0, 1), Help.REFUSED);
        due.isText("reasons", Help.reasons(x), "1:16");
        due.is("hang(7, 1)", x.hang(7, 1), Help.BAD);
        due.is("hang(0, 5)", x.hang(0, 5), Help.BAD);
        due.is("account(1)", x.account(1), 16);
    }

    private static void wire() {
        due.part("promise 3");
        LanternLogic x = Help.hung("01 22 11 43 01");
        due.is("wire(1, 1, 0)", x.wire(1, 1, 0), 1);
        due.is("wire(1, 0, 0)", x.wire(1, 0, 0), 2);
        due.is("wire(1, 2, 2)", x.wire(1, 2, 2), 3);
        due.is("wire(3, 1, 1)", x.wire(3, 1, 1), 1);
        due.is("wireOf(1, 2)", x.wireOf(1, 2), 2);
        for (int far : new int[] {-1, 5, 16, Integer.MIN_VALUE, Integer.MAX_VALUE}) {
            due.is("wire(far, 0, 0)", x.wire(far, 0, 0), Help.NONE);
            due.is("wire(2, 0, far)", x.wire(2, 0, far), Help.NONE);
            due.is("wire(2, 3, far)", x.wire(2, 3, far), Help.NONE);
            due.is("wire(0, 0, far)", x.wire(0, 0, far), Help.NONE);
        }
        for (int place : new int[] {-1, 3, Integer.MIN_VALUE, Integer.MAX_VALUE}) {
            due.is("wire(2, place, 0)", x.wire(2, place, 0), Help.BAD);
            due.is("wire(0, place, 0)", x.wire(0, place, 0), Help.BAD);
        }
        due.isText("reasons", Help.reasons(x), "");
        due.is("wire(4, 2, 0)", x.wire(4, 2, 0), Help.REFUSED);
        due.isText("reasons", Help.reasons(x), "2:4");
        due.is("wire(2, 1, 0)", x.wire(2, 1, 0), Help.REFUSED);
        due.isText("reasons", Help.reasons(x), "3:1");
        due.is("wire(3, 2, 0)", x.wire(3, 2, 0), Help.REFUSED);
        due.isText("reasons", Help.reasons(x), "3:2");
        due.is("wire(1, 2, 0)", x.wire(1, 2, 0), Help.REFUSED);
        due.isText("reasons", Help.reasons(x), "4:2");
        due.is("account(3)", x.account(3), 4);
        due.is("account(12)", x.account(12), 8);
        due.is("wire(2, 0, 2)", x.wire(2, 0, 2), 1);
        due.is("looped()", x.looped(), 4);
    }

    private static void wireRefusedForLoop() {
        due.part("promise 3, reason 8");
        LanternLogic x = Help.hung("01 31 31 31 31 31");
        x.wire(2, 0, 1);
        x.wire(3, 0, 2);
        x.wire(4, 0, 3);
        x.wire(4, 1, 2);
        x.wire(5, 0, 4);
        x.loops(false);
        due.is("wire(1, 0, 5)", x.wire(1, 0, 5), Help.REFUSED);
        due.isText("reasons, the short way counts", Help.reasons(x), "8:5 11:4");
        due.is("wire(1, 2, 1)", x.wire(1, 2, 1), Help.REFUSED);
        due.isText("reasons of a wire to itself", Help.reasons(x), "8:1 11:1");
        due.is("wire(2, 1, 4)", x.wire(2, 1, 4), Help.REFUSED);
        due.isText("reasons", Help.reasons(x), "8:4 11:2");
        due.is("wire(2, 0, 4)", x.wire(2, 0, 4), Help.REFUSED);
        due.isText("a place that has a wire is told first", Help.reasons(x), "4:1");
        due.is("wire(5, 1, 1)", x.wire(5, 1, 1), 2);
        due.is("wire(1, 0, 0)", x.wire(1, 0, 0), 1);
        due.is("account(3)", x.account(3), 7);
        due.is("loops(true)", x.loops(true), 0);
        due.is("wire(1, 1, 5)", x.wire(1, 1, 5), 2);
        due.is("looped()", x.looped(), 62);
    }

    private static void cut() {
        due.part("promise 4");
        LanternLogic x = Help.hung("01 21 11 41");
        x.wire(1, 0, 0);
        x.wire(1, 2, 3);
        x.wire(3, 1, 3);
        due.is("cut(4, 0)", x.cut(4, 0), Help.NONE);
        due.is("cut(-1, 7)", x.cut(-1, 7), Help.NONE);
        due.is("cut(1, 3)", x.cut(1, 3), Help.BAD);
        due.is("cut(0, -1)", x.cut(0, -1), Help.BAD);
        due.is("cut(0, 2)", x.cut(0, 2), Help.REFUSED);
        due.isText("reasons", Help.reasons(x), "2:0");
        due.is("cut(2, 1)", x.cut(2, 1), Help.REFUSED);
        due.isText("reasons", Help.reasons(x), "3:1");
        due.is("cut(3, 2)", x.cut(3, 2), Help.REFUSED);
        due.isText("reasons", Help.reasons(x), "3:2");
        due.is("cut(1, 1)", x.cut(1, 1), Help.REFUSED);
        due.isText("reasons", Help.reasons(x), "5:1");
        due.is("cut(1, 2)", x.cut(1, 2), 3);
        due.is("cut(1, 2)", x.cut(1, 2), Help.REFUSED);
        due.isText("reasons", Help.reasons(x), "5:2");
        due.is("cut(1, 0)", x.cut(1, 0), 0);
        due.is("cut(3, 1)", x.cut(3, 1), 3);
        due.is("account(3)", x.account(3), 0);
        for (int far : Help.FAR) {
            due.is("cut(far, 0)", x.cut(far, 0), Help.NONE);
            due.is("cut(1, far)", x.cut(1, far), Help.BAD);
        }
        LanternLogic y = Help.hung("01 14");
        y.wire(1, 0, 0);
        y.tick(2);
        y.cut(1, 0);
        due.is("lanternOf(1, 7), wires that are cut leave it", y.lanternOf(1, 7), 6);
        due.is("lanternOf(1, 6), a not without wires", y.lanternOf(1, 6), 0);
    }

    private static void set() {
        due.part("promise 5");
        LanternLogic x = Help.hung("01 11 61 04");
        due.is("set(0, false)", x.set(0, false), Help.REFUSED);
        due.isText("reasons", Help.reasons(x), "7:0");
        due.is("set(3, true)", x.set(3, true), 1);
        due.isText("a switch is so at once", Help.all(x), "...#");
        due.is("set(3, true)", x.set(3, true), Help.REFUSED);
        due.isText("reasons", Help.reasons(x), "7:3");
        due.is("set(1, true)", x.set(1, true), Help.REFUSED);
        due.isText("reasons", Help.reasons(x), "6:1");
        due.is("set(2, false)", x.set(2, false), Help.REFUSED);
        due.isText("reasons", Help.reasons(x), "6:6");
        x.wire(1, 0, 0);
        x.tick(1);
        due.is("set(0, true), a gate counts too", x.set(0, true), 3);
        due.is("set(3, false)", x.set(3, false), 2);
        due.is("lanternOf(3, 5)", x.lanternOf(3, 5), 2);
        due.is("account(9)", x.account(9), 3);
        for (int far : new int[] {-1, 4, Integer.MIN_VALUE, Integer.MAX_VALUE}) {
            due.is("set(far, true)", x.set(far, true), Help.NONE);
        }
    }

    private static void loops() {
        due.part("promise 6");
        LanternLogic x = Help.hung("01 31 31 31 31");
        due.is("loops(true)", x.loops(true), 1);
        due.is("loops(false)", x.loops(false), 1);
        due.is("account(6)", x.account(6), 0);
        due.is("loops(false)", x.loops(false), 0);
        due.is("loops(true)", x.loops(true), 0);
        due.is("account(6)", x.account(6), 1);
        x.wire(4, 0, 3);
        x.wire(3, 0, 4);
        x.wire(2, 0, 2);
        x.wire(1, 0, 4);
        x.wire(3, 1, 0);
        due.is("loops(false)", x.loops(false), Help.REFUSED);
        due.isText("reasons", Help.reasons(x), "9:2 12:3");
        due.is("account(6)", x.account(6), 1);
        due.is("loops(true)", x.loops(true), 1);
        x.cut(2, 0);
        due.is("loops(false)", x.loops(false), Help.REFUSED);
        due.isText("reasons", Help.reasons(x), "9:3 12:2");
        x.cut(4, 0);
        LanternLogic y = Help.hung("31 31");
        y.wire(0, 0, 1);
        y.wire(1, 0, 0);
        due.is("loops(false)", y.loops(false), Help.REFUSED);
        due.isText("reasons", Help.reasons(y), "9:0 12:2");
        due.is("loops(false)", x.loops(false), 1);
        due.is("wire(4, 0, 3)", x.wire(4, 0, 3), Help.REFUSED);
        due.isText("reasons", Help.reasons(x), "8:3 11:2");
    }

    private static void tick() {
        due.part("promise 7");
        LanternLogic x = Help.hung("01 11");
        x.wire(1, 0, 1);
        for (int far : new int[] {0, -1, 100, Integer.MIN_VALUE, Integer.MAX_VALUE}) {
            due.is("tick(far)", x.tick(far), Help.BAD);
        }
        due.is("account(0)", x.account(0), 0);
        due.is("tick(99)", x.tick(99), 99);
        due.is("account(0)", x.account(0), 99);
        due.is("tick(1)", x.tick(1), 1);
        due.isText("all", Help.all(x), "..");
        due.is("account(8)", x.account(8), 100);
        due.is("tick() without lanterns", new LanternLogic().tick(7), 0);
        LanternLogic y = Help.hung("01 61 61 61");
        y.wire(1, 0, 0);
        y.wire(2, 0, 1);
        y.wire(3, 0, 2);
        y.set(0, true);
        due.is("tick(1), all gates at once", y.tick(1), 1);
        due.isText("all", Help.all(y), "##..");
        due.is("tick(2)", y.tick(2), 2);
        due.isText("all", Help.all(y), "####");
        due.is("tick(1)", y.tick(1), 0);
    }

    /** For each kind and number of wires: bit r tells what it finds if the switches glow by the bits of r. */
    private static void tickOfEachKind() {
        due.part("what a gate finds");
        finds(1, 0, 0x00);
        finds(1, 1, 0x55);
        finds(2, 0, 0x00);
        finds(2, 1, 0xAA);
        finds(2, 2, 0x88);
        finds(2, 3, 0x80);
        finds(3, 0, 0x00);
        finds(3, 1, 0xAA);
        finds(3, 2, 0xEE);
        finds(3, 3, 0xFE);
        finds(4, 0, 0x00);
        finds(4, 1, 0xAA);
        finds(4, 2, 0x66);
        finds(5, 0, 0x00);
        finds(5, 1, 0xAA);
        finds(5, 2, 0x88);
        finds(5, 3, 0xE8);
        finds(6, 0, 0x00);
        finds(6, 1, 0xAA);
    }

    private static void finds(int kind, int wires, int rows) {
        for (int row = 0; row < 8; row++) {
            LanternLogic x = Help.gate(kind, wires);
            for (int k = 0; k < 3; k++) {
                if ((row >> k & 1) == 1) {
                    x.set(k, true);
                }
            }
            String call = "kind " + kind + " with " + wires + " wires in row " + row;
            due.is(call + " finds", x.lanternOf(3, 6), rows >> row & 1);
            due.is(call + " is dark ahead", x.lanternOf(3, 2), 0);
            x.tick(1);
            due.is(call + " glows", x.lanternOf(3, 2), rows >> row & 1);
        }
        LanternLogic y = Help.gate(4, 0);
        y.wire(3, 0, 0);
        y.wire(3, 1, 0);
        y.set(0, true);
        due.is("unlike with two wires of one lantern", y.lanternOf(3, 6), 0);
    }

    private static void tickWithWicks() {
        due.part("wicks");
        for (int wick = 1; wick <= 4; wick++) {
            LanternLogic x = Help.hung("01 6" + wick);
            x.wire(1, 0, 0);
            x.set(0, true);
            x.tick(1);
            x.set(0, false);
            StringBuilder seen = new StringBuilder(Help.all(x).substring(1));
            for (int t = 0; t < 5; t++) {
                x.tick(1);
                seen.append(Help.all(x).charAt(1));
            }
            due.isText("a flash of one tick by the wick " + wick, seen.toString(),
                "....#.....".substring(5 - wick, 11 - wick));
        }
        LanternLogic y = Help.hung("01 64");
        y.wire(1, 0, 0);
        y.set(0, true);
        y.tick(1);
        due.is("lanternOf(1, 7)", y.lanternOf(1, 7), 4);
        y.set(0, false);
        y.tick(1);
        due.is("lanternOf(1, 7)", y.lanternOf(1, 7), 2);
        y.tick(1);
        due.is("lanternOf(1, 7)", y.lanternOf(1, 7), 1);
        due.is("lanternOf(1, 2)", y.lanternOf(1, 2), 0);
        due.is("tick(1)", y.tick(1), 1);
        due.is("lanternOf(1, 7)", y.lanternOf(1, 7), 0);
        due.is("tick(1)", y.tick(1), 1);
    }

    private static void lanternOf() {
        due.part("promise 8");
        LanternLogic x = Help.hung("03 54 12");
        x.wire(1, 0, 0);
        x.wire(1, 2, 0);
        x.wire(1, 1, 1);
        x.wire(2, 0, 1);
        x.set(0, true);
        x.tick(5);
        int[][] want = {{0, 3, 1, 0, 2, 1, 0, 0}, {5, 4, 1, 3, 2, 1, 1, 7}, {1, 2, 1, 1, 0, 1, 0, 0}};
        for (int k = 0; k < 3; k++) {
            for (int what = 0; what < 8; what++) {
                due.is("lanternOf(" + k + ", " + what + ")", x.lanternOf(k, what), want[k][what]);
            }
            due.is("lanternOf(k, 8)", x.lanternOf(k, 8), Help.BAD);
            for (int far : Help.FAR) {
                due.is("lanternOf(k, far)", x.lanternOf(k, far), Help.BAD);
                due.is("lanternOf(far, 0)", x.lanternOf(far, 0), Help.NONE);
                due.is("lanternOf(far, 9)", x.lanternOf(far, 9), Help.NONE);
            }
        }
        due.is("lanternOf(3, 0)", x.lanternOf(3, 0), Help.NONE);
        LanternLogic y = Help.hung("31 01");
        y.wire(0, 0, 1);
        y.wire(0, 2, 0);
        due.is("lanternOf(0, 4)", y.lanternOf(0, 4), 1);
        due.is("lanternOf(1, 4)", y.lanternOf(1, 4), 1);
    }

    private static void wireOf() {
        due.part("promise 9");
        LanternLogic x = Help.hung("01 21 11");
        x.wire(1, 0, 0);
        x.wire(1, 2, 2);
        due.is("wireOf(1, 0)", x.wireOf(1, 0), 0);
        due.is("wireOf(1, 1)", x.wireOf(1, 1), Help.NOTHING);
        due.is("wireOf(1, 2)", x.wireOf(1, 2), 2);
        due.is("wireOf(2, 0)", x.wireOf(2, 0), Help.NOTHING);
        due.is("wireOf(2, 2)", x.wireOf(2, 2), Help.NOTHING);
        due.is("wireOf(0, 0)", x.wireOf(0, 0), Help.NOTHING);
        due.is("wireOf(0, 3)", x.wireOf(0, 3), Help.BAD);
        due.is("wireOf(3, 3)", x.wireOf(3, 3), Help.NONE);
        for (int far : Help.FAR) {
            due.is("wireOf(far, 0)", x.wireOf(far, 0), Help.NONE);
            due.is("wireOf(1, far)", x.wireOf(1, far), Help.BAD);
        }
        due.isText("reasons", Help.reasons(x), "");
    }
}
