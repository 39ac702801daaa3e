/** Sentences of promises 1 to 9: the lanterns, wires, switches and ticks of a call. */
final class WireEdges extends Edges {
    WireEdges(Due due, Sentences sentences) {
        super(due, sentences);
    }

    @Override
    void all() {
        newObject();
        hang();
        hangBad();
        hangRefused();
        wire();
        wireNone();
        wireBad();
        wireRefused();
        cut();
        cutNone();
        cutBad();
        cutRefused();
        set();
        setNone();
        setRefused();
        loops();
        loopsRefused();
        tick();
        tickCounts();
        tickBad();
        lanternOfKindAndGlow();
        lanternOfWires();
        lanternOfChanges();
        lanternOfFound();
        lanternOfCodes();
        wireOf();
        wireOfCodes();
    }

    private void newObject() {
        says("Promise 1", "Creates a place without lanterns.");
        LanternLogic x = new LanternLogic();
        is("account(1)", x.account(1), 0);
        is("tell()", x.tell(), 0);
        is("save()", x.save(), 0);
        is("restore()", x.restore(), 0);
        is("tick(99)", x.tick(99), 0);
        is("looped()", x.looped(), 0);
        is("settlesIn()", x.settlesIn(), 0);
        is("period()", x.period(), 1);
        is("periodAgain()", x.periodAgain(), 1);
        is("isBalanced()", x.isBalanced(), 1);
        isShare("meanWick()", x.meanWick(), 0.0);
        isShare("glowShare()", x.glowShare(), 0.0f);
        is("lanternOf(0, 0)", x.lanternOf(0, 0), NONE);
        is("wire(0, 0, 0)", x.wire(0, 0, 0), NONE);
        is("set(0, true)", x.set(0, true), NONE);
        is("flickers(0, 0)", x.flickers(0, 0), NONE);
    }

    private void hang() {
        says("Promise 2", "Hangs up a lantern, without wires.", "`kind`: its kind", "`wick`: its wick",
            "Returns its number;");
        LanternLogic x = new LanternLogic();
        for (int k = 0; k < 16; k++) {
            is("hang(" + k % 7 + ", " + (k % 4 + 1) + ")", x.hang(k % 7, k % 4 + 1), k);
            is("lanternOf(" + k + ", 0)", x.lanternOf(k, 0), k % 7);
            is("lanternOf(" + k + ", 1)", x.lanternOf(k, 1), k % 4 + 1);
            is("lanternOf(" + k + ", 3)", x.lanternOf(k, 3), 0);
            is("lanternOf(" + k + ", 4)", x.lanternOf(k, 4), 0);
        }
        LanternLogic y = Help.hung("31");
        y.wire(0, 0, 0);
        y.wire(0, 1, 0);
        y.tick(1);
        y.undo();
        y.undo();
        y.undo();
        y.undo();
        is("hang(5, 2) where one was undone", y.hang(5, 2), 0);
        isText("the new one", Help.one(y, 0), "0:most2(-,-,-)");
    }

    private void hangBad() {
        says("Promise 2", "BAD if a number is out of range;");
        LanternLogic x = Help.hung("01");
        String before = whole(x);
        for (int kind : new int[] {-1, 7, -7, 256, Integer.MIN_VALUE, Integer.MAX_VALUE}) {
            is("hang(" + kind + ", 1)", x.hang(kind, 1), BAD);
        }
        for (int wick : new int[] {0, 5, -1, -4, 257, Integer.MIN_VALUE, Integer.MAX_VALUE}) {
            is("hang(0, " + wick + ")", x.hang(0, wick), BAD);
            is("hang(6, " + wick + ")", x.hang(6, wick), BAD);
            is("hang(7, " + wick + ")", x.hang(7, wick), BAD);
        }
        isText("all of it is as before", whole(x), before);
        is("hang(0, 1), the lowest", x.hang(0, 1), 1);
        is("hang(6, 4), the highest", x.hang(6, 4), 2);
    }

    private void hangRefused() {
        says("Promise 2", "REFUSED for the reason 1.");
        LanternLogic x = sixteen(6);
        String before = Help.state(x);
        x.undo();
        is("hang(6, 1) as the 16th", x.hang(6, 1), 15);
        isRefused("hang(0, 1) as the 17th", x, x.hang(0, 1), "1:16");
        isRefused("hang(6, 4) as the 17th", x, x.hang(6, 4), "1:16");
        isText("state", Help.state(x), before);
    }

    private void wire() {
        says("Promise 3", "Puts a wire between two lanterns.", "`lantern`: the lantern to which it leads",
            "`place`: the place there, from 0", "`from`: the lantern from which it leads",
            "Returns how many wires lead to the lantern then;");
        LanternLogic x = sixteen(3);
        is("wire(15, 2, 0)", x.wire(15, 2, 0), 1);
        is("wire(15, 0, 14)", x.wire(15, 0, 14), 2);
        is("wire(15, 1, 15)", x.wire(15, 1, 15), 3);
        is("wire(0, 0, 15)", x.wire(0, 0, 15), 1);
        is("wire(0, 2, 15)", x.wire(0, 2, 15), 2);
        isText("the highest lantern", Help.one(x, 15), "15:or1(14,15,0)");
        isText("the lowest lantern", Help.one(x, 0), "0:or1(15,-,15)");
        isText("another lantern", Help.one(x, 14), "14:or1(-,-,-)");
        is("account(3)", x.account(3), 5);
    }

    private void wireNone() {
        says("Promise 3", "NONE if there is no such lantern;");
        LanternLogic x = Help.hung("31 31");
        String before = whole(x);
        for (int far : FAR) {
            is("wire(" + far + ", 0, 0)", x.wire(far, 0, 0), NONE);
            is("wire(0, 0, " + far + ")", x.wire(0, 0, far), NONE);
            is("wire(" + far + ", 0, " + far + ")", x.wire(far, 0, far), NONE);
        }
        is("wire(2, 0, 0)", x.wire(2, 0, 0), NONE);
        is("wire(0, 0, 2)", x.wire(0, 0, 2), NONE);
        isText("all of it is as before", whole(x), before);
        is("wire(1, 0, 0)", x.wire(1, 0, 0), 1);
        is("wire(0, 0, 1)", x.wire(0, 0, 1), 1);
        LanternLogic y = sixteen(3);
        is("wire(16, 0, 0)", y.wire(16, 0, 0), NONE);
        is("wire(0, 0, 16)", y.wire(0, 0, 16), NONE);
    }

    private void wireBad() {
        says("Promise 3", "BAD if the place is not from 0 to 2;");
        for (int kind = 0; kind <= 6; kind++) {
            LanternLogic x = Help.hung(kind + "1 31");
            String before = whole(x);
            for (int place : FAR) {
                is("wire(0, " + place + ", 1) of the kind " + kind, x.wire(0, place, 1), BAD);
            }
            is("wire(0, 3, 1) of the kind " + kind, x.wire(0, 3, 1), BAD);
            isText("all of it is as before", whole(x), before);
        }
        LanternLogic y = Help.hung("31");
        is("wire(0, 2, 0)", y.wire(0, 2, 0), 1);
        is("wire(0, 0, 0)", y.wire(0, 0, 0), 2);
    }

    private void wireRefused() {
        says("Promise 3", "REFUSED for the reason 2, 3, 4 or 8.");
        LanternLogic x = Help.hung("01 31 41 11 61");
        x.loops(false);
        x.wire(1, 0, 0);
        x.wire(2, 1, 1);
        x.wire(3, 0, 2);
        String before = Help.state(x);
        isRefused("wire(0, 0, 1)", x, x.wire(0, 0, 1), "2:0");
        isRefused("wire(0, 2, 0), a switch to itself", x, x.wire(0, 2, 0), "2:0");
        isRefused("wire(2, 2, 0)", x, x.wire(2, 2, 0), "3:2");
        isRefused("wire(3, 1, 0)", x, x.wire(3, 1, 0), "3:1");
        isRefused("wire(4, 2, 4), a loop of a place that is not there", x, x.wire(4, 2, 4), "3:1");
        isRefused("wire(1, 0, 0)", x, x.wire(1, 0, 0), "4:0");
        isRefused("wire(2, 1, 3), a loop at a place that has a wire", x, x.wire(2, 1, 3), "4:1");
        isRefused("wire(1, 1, 3)", x, x.wire(1, 1, 3), "8:3 11:3");
        isRefused("wire(1, 2, 1)", x, x.wire(1, 2, 1), "8:1 11:1");
        isText("state", Help.state(x), before);
        is("wire(1, 1, 4), no loop", x.wire(1, 1, 4), 2);
    }

    private void cut() {
        says("Promise 4", "Cuts a wire.", "`lantern`: the lantern to which it leads", "`place`: the place there",
            "Returns the lantern from which it led;");
        LanternLogic x = sixteen(2);
        x.wire(15, 0, 0);
        x.wire(15, 1, 15);
        x.wire(15, 2, 14);
        x.wire(0, 2, 15);
        is("cut(15, 2)", x.cut(15, 2), 14);
        isText("the others stay", Help.one(x, 15), "15:and1(0,15,-)");
        is("cut(15, 0)", x.cut(15, 0), 0);
        is("cut(15, 1)", x.cut(15, 1), 15);
        is("cut(0, 2)", x.cut(0, 2), 15);
        is("account(3)", x.account(3), 0);
        isText("none is left", Help.one(x, 15), "15:and1(-,-,-)");
    }

    private void cutNone() {
        says("Promise 4", "NONE if there is no such lantern;");
        LanternLogic x = Help.hung("31 31");
        x.wire(0, 0, 1);
        String before = whole(x);
        for (int far : FAR) {
            is("cut(" + far + ", 0)", x.cut(far, 0), NONE);
        }
        is("cut(2, 0)", x.cut(2, 0), NONE);
        isText("all of it is as before", whole(x), before);
        is("cut(0, 0)", x.cut(0, 0), 1);
        is("cut(16, 0)", sixteen(3).cut(16, 0), NONE);
    }

    private void cutBad() {
        says("Promise 4", "BAD if the place is not from 0 to 2;");
        for (int kind = 0; kind <= 6; kind++) {
            LanternLogic x = Help.hung(kind + "1");
            String before = whole(x);
            for (int place : FAR) {
                is("cut(0, " + place + ") of the kind " + kind, x.cut(0, place), BAD);
            }
            is("cut(0, 3) of the kind " + kind, x.cut(0, 3), BAD);
            isText("all of it is as before", whole(x), before);
        }
        LanternLogic y = Help.gate(2, 3);
        is("cut(3, 2)", y.cut(3, 2), 2);
        is("cut(3, 0)", y.cut(3, 0), 0);
    }

    private void cutRefused() {
        says("Promise 4", "REFUSED for the reason 2, 3 or 5.");
        LanternLogic x = Help.hung("01 11 41 21");
        x.wire(3, 1, 0);
        String before = Help.state(x);
        isRefused("cut(0, 0)", x, x.cut(0, 0), "2:0");
        isRefused("cut(0, 2)", x, x.cut(0, 2), "2:0");
        isRefused("cut(1, 1)", x, x.cut(1, 1), "3:1");
        isRefused("cut(2, 2)", x, x.cut(2, 2), "3:2");
        isRefused("cut(1, 0)", x, x.cut(1, 0), "5:0");
        isRefused("cut(2, 1)", x, x.cut(2, 1), "5:1");
        isRefused("cut(3, 2)", x, x.cut(3, 2), "5:2");
        isText("state", Help.state(x), before);
        is("cut(3, 1)", x.cut(3, 1), 0);
        isRefused("cut(3, 1) once more", x, x.cut(3, 1), "5:1");
    }

    private void set() {
        says("Promise 5", "Sets a switch.", "`lantern`: the switch", "`isOn`: whether it glows then",
            "Returns how many lanterns glow then;");
        LanternLogic x = sixteen(0);
        for (int k = 0; k < 16; k++) {
            is("set(" + k + ", true)", x.set(k, true), k + 1);
        }
        isText("all", Help.all(x), "################");
        for (int k = 15; k >= 0; k--) {
            is("set(" + k + ", false)", x.set(k, false), k);
        }
        LanternLogic y = Help.hung("01 61 01");
        y.wire(1, 0, 0);
        y.set(0, true);
        y.tick(1);
        is("set(0, false), a gate still glows", y.set(0, false), 1);
        is("set(2, true), a gate still glows", y.set(2, true), 2);
    }

    private void setNone() {
        says("Promise 5", "NONE if there is no such lantern;");
        LanternLogic x = Help.hung("01 01");
        String before = whole(x);
        for (int far : FAR) {
            is("set(" + far + ", true)", x.set(far, true), NONE);
            is("set(" + far + ", false)", x.set(far, false), NONE);
        }
        is("set(2, true)", x.set(2, true), NONE);
        isText("all of it is as before", whole(x), before);
        is("set(1, true)", x.set(1, true), 1);
        is("set(0, true)", x.set(0, true), 2);
        is("set(16, true)", sixteen(0).set(16, true), NONE);
    }

    private void setRefused() {
        says("Promise 5", "REFUSED for the reason 6 or 7.");
        for (int kind = 1; kind <= 6; kind++) {
            LanternLogic x = Help.hung(kind + "1");
            isRefused("set(0, true) of the kind " + kind, x, x.set(0, true), "6:" + kind);
            isRefused("set(0, false) of the kind " + kind + ", which is so", x, x.set(0, false), "6:" + kind);
        }
        LanternLogic y = Help.hung("11 01 01");
        isRefused("set(1, false)", y, y.set(1, false), "7:1");
        y.set(2, true);
        String before = Help.state(y);
        isRefused("set(2, true)", y, y.set(2, true), "7:2");
        isText("state", Help.state(y), before);
    }

    private void loops() {
        says("Promise 6", "Allows loops, or forbids them.", "`areAllowed`: whether they are allowed",
            "Returns 1 if they were allowed before, otherwise 0;");
        LanternLogic x = new LanternLogic();
        is("loops(true) at first", x.loops(true), 1);
        is("loops(false)", x.loops(false), 1);
        is("loops(false) once more", x.loops(false), 0);
        is("loops(true)", x.loops(true), 0);
        is("loops(true) once more", x.loops(true), 1);
    }

    private void loopsRefused() {
        says("Promise 6", "REFUSED for the reason 9, if they are forbidden.");
        LanternLogic x = Help.hung("01 31 31");
        x.wire(2, 0, 2);
        is("loops(true) with a loop", x.loops(true), 1);
        String before = Help.state(x);
        isRefused("loops(false) with a loop", x, x.loops(false), "9:2 12:1");
        isText("state", Help.state(x), before);
        is("loops(true) with a loop", x.loops(true), 1);
        x.cut(2, 0);
        x.wire(2, 0, 1);
        is("loops(false) without one", x.loops(false), 1);
    }

    private void tick() {
        says("Promise 7", "Lets ticks go by.", "`ticks`: how many, 1 to 99");
        LanternLogic x = Help.hung("11");
        x.wire(0, 0, 0);
        is("tick(0)", x.tick(0), BAD);
        is("tick(1)", x.tick(1), 1);
        is("account(0)", x.account(0), 1);
        is("tick(99)", x.tick(99), 99);
        is("account(0)", x.account(0), 100);
        is("tick(100)", x.tick(100), BAD);
        is("account(0)", x.account(0), 100);
    }

    private void tickCounts() {
        says("Promise 7", "Returns how often lanterns change in them, all together;");
        LanternLogic x = sixteen(1);
        is("tick(99), none changes", x.tick(99), 0);
        for (int k = 0; k < 16; k++) {
            x.wire(k, 0, k);
        }
        is("tick(1), all change", x.tick(1), 16);
        is("tick(99), all change in each", x.tick(99), 16 * 99);
        LanternLogic y = Help.hung("01 61 62");
        y.wire(1, 0, 0);
        y.wire(2, 0, 0);
        y.set(0, true);
        is("tick(9), each changes once", y.tick(9), 2);
        is("tick(9)", y.tick(9), 0);
    }

    private void tickBad() {
        says("Promise 7", "BAD if the number is out of range.");
        LanternLogic x = Help.hung("11");
        x.wire(0, 0, 0);
        String before = whole(x);
        for (int ticks : new int[] {Integer.MIN_VALUE, -256, -99, -1, 0, 100, 256, 257, 65537, Integer.MAX_VALUE}) {
            is("tick(" + ticks + ")", x.tick(ticks), BAD);
        }
        isText("all of it is as before", whole(x), before);
    }

    private void lanternOfKindAndGlow() {
        says("Promise 8", "Returns a number of a lantern.", "`lantern`: the lantern",
            "`what`: 0 for its kind, 1 for its wick, 2 for 1 if it glows, and 0 otherwise,", "Returns the number;");
        LanternLogic x = new LanternLogic();
        for (int k = 0; k < 16; k++) {
            x.hang(6 - k % 7, 4 - k % 4);
        }
        x.set(6, true);
        x.set(13, true);
        for (int k = 0; k < 16; k++) {
            is("lanternOf(" + k + ", 0)", x.lanternOf(k, 0), 6 - k % 7);
            is("lanternOf(" + k + ", 1)", x.lanternOf(k, 1), 4 - k % 4);
            is("lanternOf(" + k + ", 2)", x.lanternOf(k, 2), k % 7 == 6 ? 1 : 0);
        }
    }

    private void lanternOfWires() {
        says("Promise 8", "3 for the wires that lead to it, 4 for those that lead from it,");
        LanternLogic x = sixteen(3);
        for (int k = 0; k < 16; k++) {
            for (int place = 0; place < 3; place++) {
                is("lanternOf(k, 3)", x.lanternOf(k, 3), place);
                is("lanternOf(15, 4)", x.lanternOf(15, 4), 3 * k + place);
                x.wire(k, place, 15);
            }
        }
        is("lanternOf(0, 3), the most", x.lanternOf(0, 3), 3);
        is("lanternOf(0, 4), none", x.lanternOf(0, 4), 0);
        is("lanternOf(15, 3), the most", x.lanternOf(15, 3), 3);
        is("lanternOf(15, 4), the most", x.lanternOf(15, 4), 48);
        x.cut(15, 2);
        is("lanternOf(15, 3)", x.lanternOf(15, 3), 2);
        is("lanternOf(15, 4)", x.lanternOf(15, 4), 47);
    }

    private void lanternOfChanges() {
        says("Promise 8", "5 for how often it changed so far, by ticks and by being set,");
        LanternLogic x = Help.hung("01 61 11 01");
        x.wire(1, 0, 0);
        x.wire(2, 0, 2);
        for (int i = 1; i <= 20; i++) {
            x.set(0, i % 2 == 1);
            is("lanternOf(0, 5)", x.lanternOf(0, 5), i);
            is("lanternOf(1, 5)", x.lanternOf(1, 5), i - 1);
            x.tick(3);
            is("lanternOf(1, 5)", x.lanternOf(1, 5), i);
            is("lanternOf(2, 5)", x.lanternOf(2, 5), 3 * i);
        }
        is("lanternOf(3, 5), which never changed", x.lanternOf(3, 5), 0);
        x.set(0, false);
        is("lanternOf(0, 5), set so already", x.lanternOf(0, 5), 20);
    }

    private void lanternOfFound() {
        says("Promise 8", "6 for 1 if it finds a glow now, and 0 otherwise, also for a switch,");
        LanternLogic x = Help.hung("01 64 11");
        x.wire(1, 0, 0);
        x.wire(2, 0, 0);
        is("lanternOf(1, 6)", x.lanternOf(1, 6), 0);
        is("lanternOf(2, 6)", x.lanternOf(2, 6), 1);
        x.set(0, true);
        is("lanternOf(0, 6), a switch that glows", x.lanternOf(0, 6), 0);
        is("lanternOf(1, 6) at once, still dark", x.lanternOf(1, 6), 1);
        is("lanternOf(1, 2)", x.lanternOf(1, 2), 0);
        is("lanternOf(2, 6)", x.lanternOf(2, 6), 0);

        says("Promise 8", "7 for what it found in the ticks that still count, of a gate: bit 0 for the one that"
            + " is seen behind the next tick, and so on, 0 for a switch");
        LanternLogic y = Help.hung("04 61 62 63 64");
        for (int k = 1; k <= 4; k++) {
            y.wire(k, 0, 0);
        }
        y.set(0, true);
        int[][] found = {{0, 0, 0, 0, 0}, {0, 0, 1, 2, 4}, {0, 0, 1, 3, 6}, {0, 0, 1, 3, 7}, {0, 0, 1, 3, 7}};
        int[][] later = {{0, 0, 0, 1, 3}, {0, 0, 0, 0, 1}, {0, 0, 0, 0, 0}};
        for (int t = 0; t < 5; t++) {
            areFound(y, found[t], t);
            y.tick(1);
        }
        y.set(0, false);
        for (int t = 0; t < 3; t++) {
            y.tick(1);
            areFound(y, later[t], t);
        }
    }

    private void areFound(LanternLogic x, int[] found, int ticks) {
        for (int k = 0; k < found.length; k++) {
            is("lanternOf(" + k + ", 7) behind " + ticks, x.lanternOf(k, 7), found[k]);
        }
    }

    private void lanternOfCodes() {
        says("Promise 8", "NONE if there is no such lantern;");
        LanternLogic x = Help.hung("01 61");
        for (int what = 0; what <= 7; what++) {
            for (int far : FAR) {
                is("lanternOf(" + far + ", " + what + ")", x.lanternOf(far, what), NONE);
            }
            is("lanternOf(2, " + what + ")", x.lanternOf(2, what), NONE);
            is("lanternOf(16, " + what + ")", sixteen(0).lanternOf(16, what), NONE);
        }

        says("Promise 8", "BAD if what is not from 0 to 7.");
        for (int k = 0; k < 2; k++) {
            for (int far : FAR) {
                is("lanternOf(" + k + ", " + far + ")", x.lanternOf(k, far), BAD);
            }
            is("lanternOf(" + k + ", 8)", x.lanternOf(k, 8), BAD);
            is("lanternOf(" + k + ", 7)", x.lanternOf(k, 7), 0);
            is("lanternOf(" + k + ", 0)", x.lanternOf(k, 0), 6 * k);
        }
    }

    private void wireOf() {
        says("Promise 9", "Returns the lantern from which a wire leads.", "`lantern`: the lantern to which it leads",
            "`place`: the place there", "Returns the lantern;");
        LanternLogic x = sixteen(5);
        x.wire(0, 0, 15);
        x.wire(0, 2, 0);
        x.wire(15, 1, 0);
        x.wire(15, 2, 15);
        is("wireOf(0, 0)", x.wireOf(0, 0), 15);
        is("wireOf(0, 2)", x.wireOf(0, 2), 0);
        is("wireOf(15, 1)", x.wireOf(15, 1), 0);
        is("wireOf(15, 2)", x.wireOf(15, 2), 15);

        says("Promise 9", "NOTHING if there is no wire, or no such place.");
        is("wireOf(0, 1)", x.wireOf(0, 1), NOTHING);
        is("wireOf(15, 0)", x.wireOf(15, 0), NOTHING);
        x.cut(15, 2);
        is("wireOf(15, 2) behind the cut", x.wireOf(15, 2), NOTHING);
        int[] places = {0, 1, 3, 3, 2, 3, 1};
        for (int kind = 0; kind <= 6; kind++) {
            LanternLogic y = Help.gate(kind, places[kind]);
            for (int place = 0; place < 3; place++) {
                int want = place < places[kind] ? place : NOTHING;
                is("wireOf(3, " + place + ") of the kind " + kind, y.wireOf(3, place), want);
            }
        }
        isText("reasons", Help.reasons(x), "");
    }

    private void wireOfCodes() {
        says("Promise 9", "NONE if there is no such lantern;");
        LanternLogic x = Help.hung("31 01");
        for (int far : FAR) {
            is("wireOf(" + far + ", 0)", x.wireOf(far, 0), NONE);
        }
        is("wireOf(2, 0)", x.wireOf(2, 0), NONE);
        is("wireOf(16, 0)", sixteen(3).wireOf(16, 0), NONE);

        says("Promise 9", "BAD if the place is not from 0 to 2;");
        for (int k = 0; k < 2; k++) {
            for (int far : FAR) {
                is("wireOf(" + k + ", " + far + ")", x.wireOf(k, far), BAD);
            }
            is("wireOf(" + k + ", 3)", x.wireOf(k, 3), BAD);
            is("wireOf(" + k + ", 2)", x.wireOf(k, 2), NOTHING);
            is("wireOf(" + k + ", 0)", x.wireOf(k, 0), NOTHING);
        }
    }
}
