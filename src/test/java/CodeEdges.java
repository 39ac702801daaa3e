/** Sentences of the terms on reasons, changes and codes. */
final class CodeEdges extends Edges {
    /** A call with all its numbers. */
    private interface Call {
        int on(LanternLogic x);
    }

    CodeEdges(Due due, Sentences sentences) {
        super(due, sentences);
    }

    @Override
    void all() {
        firstReason();
        reasonsOfLanterns();
        reasonsOfPlaces();
        reasonsOfSwitches();
        reasonsOfLoops();
        reasonOfAnOrder();
        behindEight();
        behindNine();
        behindTen();
        behindTenACode();
        changes();
        changesOfNothing();
        latestEight();
        codesLeaveAll();
        firstCode();
        neitherUndoneNorSaved();
    }

    private void firstReason() {
        says("Reasons", "Something is refused for the first of the reasons that its method names, in the order in which it"
            + " names them, with a detail:");
        LanternLogic x = Help.hung("01 11 41 31");
        x.wire(2, 1, 3);
        x.loops(false);
        isRefused("wire(0, 2, 0), 2 and 3 and 8", x, x.wire(0, 2, 0), "2:0");
        isRefused("wire(1, 1, 1), 3 and 8", x, x.wire(1, 1, 1), "3:1");
        isRefused("wire(2, 2, 2), 3 and 8", x, x.wire(2, 2, 2), "3:2");
        isRefused("wire(2, 1, 2), 4 and 8", x, x.wire(2, 1, 2), "4:3");
        isRefused("cut(0, 1), 2 and 3 and 5", x, x.cut(0, 1), "2:0");
        isRefused("cut(1, 2), 3 and 5", x, x.cut(1, 2), "3:1");
        isRefused("set(1, false), 6 and 7", x, x.set(1, false), "6:1");
    }

    private void reasonsOfLanterns() {
        says("Reasons", "1, there are 16 lanterns: 16;");
        LanternLogic x = sixteen(2);
        isRefused("hang(2, 1)", x, x.hang(2, 1), "1:16");
        x.undo();
        is("hang(2, 1) with 15", x.hang(2, 1), 15);

        says("Reasons", "2, the lantern is a switch: the lantern;");
        LanternLogic y = sixteen(0);
        for (int k = 0; k < 16; k++) {
            isRefused("wire(" + k + ", 0, 3)", y, y.wire(k, 0, 3), "2:" + k);
            isRefused("cut(" + k + ", 0)", y, y.cut(k, 0), "2:" + k);
        }

        says("Reasons", "3, the lantern has no such place: how many it has;");
        int[] places = {0, 1, 3, 3, 2, 3, 1};
        for (int kind = 1; kind <= 6; kind++) {
            LanternLogic z = Help.hung(kind + "1 01");
            for (int place = places[kind]; place < 3; place++) {
                isRefused("wire(0, " + place + ", 1)", z, z.wire(0, place, 1), "3:" + places[kind]);
                isRefused("cut(0, " + place + ")", z, z.cut(0, place), "3:" + places[kind]);
            }
            is("wire(0, the last place, 1)", z.wire(0, places[kind] - 1, 1), 1);
            is("cut(0, the last place)", z.cut(0, places[kind] - 1), 1);
        }
    }

    private void reasonsOfPlaces() {
        says("Reasons", "4, the place has a wire: the lantern from which it leads;");
        LanternLogic x = sixteen(3);
        x.wire(1, 0, 0);
        x.wire(1, 2, 15);
        isRefused("wire(1, 0, 7)", x, x.wire(1, 0, 7), "4:0");
        isRefused("wire(1, 2, 7)", x, x.wire(1, 2, 7), "4:15");
        isRefused("wire(1, 2, 15), the same", x, x.wire(1, 2, 15), "4:15");
        is("wire(1, 1, 7)", x.wire(1, 1, 7), 3);

        says("Reasons", "5, the place has no wire: the place;");
        isRefused("cut(0, 0)", x, x.cut(0, 0), "5:0");
        isRefused("cut(0, 1)", x, x.cut(0, 1), "5:1");
        isRefused("cut(15, 2)", x, x.cut(15, 2), "5:2");
        x.cut(1, 1);
        isRefused("cut(1, 1) once more", x, x.cut(1, 1), "5:1");
    }

    private void reasonsOfSwitches() {
        says("Reasons", "6, the lantern is no switch: its kind;");
        for (int kind = 1; kind <= 6; kind++) {
            LanternLogic x = Help.hung("01 " + kind + "1");
            isRefused("set(1, true)", x, x.set(1, true), "6:" + kind);
        }

        says("Reasons", "7, the switch is so already: the switch;");
        LanternLogic y = sixteen(0);
        for (int k = 0; k < 16; k += 5) {
            isRefused("set(" + k + ", false)", y, y.set(k, false), "7:" + k);
            y.set(k, true);
            isRefused("set(" + k + ", true)", y, y.set(k, true), "7:" + k);
        }
    }

    private void reasonsOfLoops() {
        says("Reasons", "8, the wire would close a loop: the lantern from which it leads;");
        LanternLogic x = sixteen(3);
        x.loops(false);
        x.wire(0, 0, 15);
        is("wire(0, 0, 15) closes none", x.wireOf(0, 0), 15);
        is("wire(15, 2, 0)", x.wire(15, 2, 0), REFUSED);
        is("reason(0, false)", x.reason(0, false), 8);
        is("reason(0, true)", x.reason(0, true), 0);
        is("wire(15, 2, 15)", x.wire(15, 2, 15), REFUSED);
        is("reason(0, true)", x.reason(0, true), 15);

        says("Reasons", "9, there are loops: the lowest lantern in one;");
        LanternLogic y = sixteen(3);
        y.wire(15, 0, 15);
        y.wire(0, 0, 1);
        for (int lowest = 15; lowest >= 0; lowest -= 5) {
            y.wire(lowest, 2, lowest);
            is("loops(false)", y.loops(false), REFUSED);
            is("reason(0, false)", y.reason(0, false), 9);
            is("reason(0, true)", y.reason(0, true), lowest);
        }
    }

    private void reasonOfAnOrder() {
        says("Reasons", "10, an order cannot be carried out: its number, from 0.");
        for (int order = 0; order < 8; order++) {
            LanternLogic x = Help.hung("01");
            StringBuilder text = new StringBuilder();
            for (int i = 0; i < 8; i++) {
                text.append(i > 0 ? ";" : "").append(i == order ? "set 0-" : "tick 1");
            }
            isRefused("run() of '" + text + "'", x, Help.run(x, text.toString()), "10:" + order + " 7:0");
        }
        LanternLogic y = Help.hung("01");
        isRefused("run(), the first of two", y, Help.run(y, "tick 1;set 0-;tick 0"), "10:1 7:0");
    }

    private void behindEight() {
        says("Reasons", "Behind 8 stands 11, with the fewest wires that such a loop would have, the new one included;");
        for (int count = 1; count <= 16; count++) {
            LanternLogic x = sixteen(3);
            for (int k = 1; k < count; k++) {
                x.wire(k, 1, k - 1);
            }
            x.loops(false);
            int last = count - 1;
            isRefused("wire(0, 2, " + last + ")", x, x.wire(0, 2, last), "8:" + last + " 11:" + count);
        }
        LanternLogic y = sixteen(3);
        for (int k = 1; k < 16; k++) {
            y.wire(k, 0, k - 1);
        }
        y.wire(14, 1, 2);
        y.wire(15, 2, 13);
        y.loops(false);
        isRefused("wire(0, 0, 15), 0 1 2 14 15", y, y.wire(0, 0, 15), "8:15 11:5");
        isRefused("wire(3, 1, 15), 3 to 13 and 15", y, y.wire(3, 1, 15), "8:15 11:12");
        y.wire(15, 1, 0);
        isRefused("wire(0, 0, 15) with a wire straight to it", y, y.wire(0, 0, 15), "8:15 11:2");
    }

    private void behindNine() {
        says("Reasons", "behind 9 stands 12, with how many lanterns are in loops;");
        for (int count = 1; count <= 16; count++) {
            LanternLogic x = sixteen(3);
            for (int k = 0; k < count; k++) {
                x.wire(k, 0, (k + 1) % count);
            }
            isRefused("loops(false) with a ring of " + count, x, x.loops(false), "9:0 12:" + count);
        }
        LanternLogic y = sixteen(3);
        y.wire(3, 0, 3);
        y.wire(9, 0, 10);
        y.wire(10, 2, 9);
        y.wire(1, 0, 10);
        isRefused("loops(false) with two loops", y, y.loops(false), "9:3 12:3");
    }

    private void behindTen() {
        says("Reasons", "behind 10 stands the reason for which the order is refused, with what stands behind it,");
        LanternLogic x = Help.hung("01 11 31 31");
        x.loops(false);
        isRefused("run()", x, Help.run(x, "wire 0.0<1"), "10:0 2:0");
        isRefused("run()", x, Help.run(x, "tick 1;cut 1.2"), "10:1 3:1");
        isRefused("run()", x, Help.run(x, "wire 2.0<0;wire 2.0<1"), "10:1 4:0");
        isRefused("run()", x, Help.run(x, "wire 2.0<0;tick 1;cut 2.1"), "10:2 5:1");
        isRefused("run()", x, Help.run(x, "set 1-"), "10:0 6:1");
        isRefused("run()", x, Help.run(x, "set 0-"), "10:0 7:0");
        isRefused("run()", x, Help.run(x, "wire 2.0<3;wire 3.0<2"), "10:1 8:2 11:2");
        isRefused("run()", x, Help.run(x, "wire 2.0<2"), "10:0 8:2 11:1");
        LanternLogic y = sixteen(2);
        isRefused("run()", y, Help.run(y, "hang 0*1"), "10:0 1:16");
    }

    private void behindTenACode() {
        says("Reasons", "or 13, with the code that its method would return, if it is not refused.");
        String[] bad = {"hang 7*1", "hang 9*9", "hang 0*0", "hang 0*5", "wire 1.3<0", "cut 1.3", "cut 0.9", "tick 0", "tick 00"};
        String[] none = {"wire 2.0<0", "wire 1.0<2", "wire 1.9<99", "wire 16.0<0", "cut 2.0", "cut 99.9", "set 2+", "set 99-"};
        for (String order : bad) {
            LanternLogic x = Help.hung("01 31");
            isRefused("run() of '" + order + "'", x, Help.run(x, order), "10:0 13:-12");
            isRefused("run() of '" + order + "'", x, Help.run(x, "tick 1;" + order), "10:1 13:-12");
        }
        for (String order : none) {
            LanternLogic x = Help.hung("01 31");
            isRefused("run() of '" + order + "'", x, Help.run(x, order), "10:0 13:-11");
        }
        LanternLogic y = Help.hung("01 31");
        y.loops(false);
        isRefused("a reason with one behind it", y, y.wire(1, 0, 1), "8:1 11:1");
        isRefused("none of it is left", y, Help.run(y, "tick 0"), "10:0 13:-12");
    }

    private void isChange(String what, LanternLogic x, Call call, boolean is) {
        int before = x.account(12);
        int answer = call.on(x);
        is("account(12) behind " + what + " = " + answer, x.account(12), is ? Math.min(before + 1, 8) : before);
    }

    private void changes() {
        says("Changes", "The changes are the successful calls of hang, wire, cut, set, loops, tick and run,");
        LanternLogic x = new LanternLogic();
        isChange("hang(0, 1)", x, y -> y.hang(0, 1), true);
        isChange("hang(3, 1)", x, y -> y.hang(3, 1), true);
        isChange("wire(1, 0, 0)", x, y -> y.wire(1, 0, 0), true);
        isChange("set(0, true)", x, y -> y.set(0, true), true);
        isChange("tick(1)", x, y -> y.tick(1), true);
        isChange("loops(false)", x, y -> y.loops(false), true);
        isChange("cut(1, 0)", x, y -> y.cut(1, 0), true);
        x.restore();
        x.undo();
        isChange("run() of four orders", x, y -> Help.run(y, "set 0-;tick 1;hang 0*1;set 2+"), true);
        LanternLogic z = Help.hung("01 31");
        for (Call call : new Call[] {y -> y.hang(7, 1), y -> y.wire(0, 0, 0), y -> y.wire(2, 0, 0), y -> y.cut(1, 0),
            y -> y.set(0, false), y -> y.set(1, true), y -> y.tick(0), y -> y.tick(100), y -> Help.run(y, ""),
            y -> Help.run(y, "tick 1;tick 0"), y -> Help.run(y, "tick 1;"), y -> y.lanternOf(0, 0), y -> y.settlesIn(),
            y -> y.period(), y -> y.periodAgain(), y -> y.flickers(1, 0), y -> y.table(1), y -> y.tableAgain(1),
            y -> y.append('t'), y -> y.tell(), y -> y.tellLantern(0), y -> y.save(), y -> y.depth(1)}) {
            isChange("another call", z, call, false);
        }
        z.wire(1, 0, 1);
        isChange("loops(false), refused", z, y -> y.loops(false), false);
    }

    private void changesOfNothing() {
        says("Changes", "also those by which nothing is different.");
        LanternLogic x = new LanternLogic();
        isChange("loops(true), which are allowed", x, y -> y.loops(true), true);
        isChange("loops(false)", x, y -> y.loops(false), true);
        isChange("loops(false), which are forbidden", x, y -> y.loops(false), true);
        isChange("tick(1) without lanterns", x, y -> y.tick(1), true);
        isChange("run() of a tick", x, y -> Help.run(y, "tick 1"), true);
        x.hang(0, 1);
        isChange("run() that sets a switch, and sets it back", x, y -> Help.run(y, "set 0+;set 0-"), true);
        is("undo()", x.undo(), 6);
        is("undo()", x.undo(), 5);
        is("undo() of the tick of a text", x.undo(), 4);
        is("account(0)", x.account(0), 1);
        is("undo() of the tick", x.undo(), 3);
        is("account(0)", x.account(0), 0);
        is("undo() of loops(false)", x.undo(), 2);
        is("account(6)", x.account(6), 0);
        is("undo() of loops(false)", x.undo(), 1);
        is("account(6)", x.account(6), 1);
        is("undo() of loops(true)", x.undo(), 0);
    }

    private void latestEight() {
        says("Changes", "The latest 8 can be undone.");
        for (int changes = 7; changes <= 9; changes++) {
            LanternLogic x = new LanternLogic();
            for (int i = 0; i < changes; i++) {
                x.hang(0, 1);
            }
            int kept = Math.min(8, changes);
            is("account(12) behind " + changes, x.account(12), kept);
            for (int i = 1; i <= kept; i++) {
                is("undo()", x.undo(), kept - i);
                is("account(1)", x.account(1), changes - i);
            }
            is("undo() once more", x.undo(), NOTHING);
            is("account(1)", x.account(1), changes - kept);
        }
        LanternLogic y = new LanternLogic();
        for (int i = 0; i < 12; i++) {
            y.tick(i + 1);
            y.tick(99);
            y.undo();
        }
        is("account(0), each second one undone", y.account(0), 78);
        is("account(12), the eighth was put out by the one undone", y.account(12), 7);
        for (int i = 6; i >= 0; i--) {
            is("undo()", y.undo(), i);
        }
        is("account(0), undone to behind the fifth", y.account(0), 15);
        is("undo() once more", y.undo(), NOTHING);
    }

    /** Lanterns with a text, a line, reasons, a snapshot, changes to undo, and ticks under way. */
    private static LanternLogic busy() {
        LanternLogic x = Help.hung("02 14 61 21 01");
        x.save();
        x.wire(1, 0, 0);
        x.wire(2, 0, 1);
        x.wire(3, 1, 3);
        x.tick(2);
        x.set(0, true);
        x.set(0, true);
        x.append('t');
        x.append('i');
        x.tellLantern(3);
        return x;
    }

    private void codesLeaveAll() {
        says("Codes", "A call that returns a code leaves everything unchanged, except that run empties the text, and that"
            + " reasons are kept.");
        leavesAll("hang", BAD, y -> y.hang(7, 1), y -> y.hang(0, 5));
        leavesAll("wire", NONE, y -> y.wire(9, 0, 0), y -> y.wire(2, 0, 9));
        leavesAll("wire", BAD, y -> y.wire(2, 3, 0), y -> y.wire(3, -1, 0));
        leavesAll("wire", REFUSED, y -> y.wire(0, 0, 1), y -> y.wire(2, 1, 0), y -> y.wire(3, 1, 0));
        leavesAll("cut", NONE, y -> y.cut(9, 0), y -> y.cut(-1, 0));
        leavesAll("cut", BAD, y -> y.cut(3, 3), y -> y.cut(3, -1));
        leavesAll("cut", REFUSED, y -> y.cut(0, 0), y -> y.cut(2, 1), y -> y.cut(3, 0));
        leavesAll("set", NONE, y -> y.set(9, true), y -> y.set(-1, true));
        leavesAll("set", REFUSED, y -> y.set(1, true), y -> y.set(0, true));
        leavesAll("loops", REFUSED, y -> y.loops(false));
        leavesAll("tick", BAD, y -> y.tick(0), y -> y.tick(100));
        leavesAll("flickers", NOTHING, y -> y.flickers(1, 0), y -> y.flickers(2, 4));
        leavesAll("table", NOTHING, y -> y.table(3), y -> y.tableAgain(3), y -> y.table(0));
        leavesAll("depth", NOTHING, y -> y.depth(3), y -> y.depthAgain(3));
        leavesAll("append", BAD, y -> y.append(31), y -> y.append(127));
        leavesAll("tellLantern", NONE, y -> y.tellLantern(9), y -> y.tellLantern(-1));
        leavesAll("run", -1002, y -> y.run());
        leavesAll("run", REFUSED, y -> Help.run(y, "ck 9;tick 0"));
        LanternLogic x = Help.hung("01");
        String before = whole(x);
        is("undo() once", x.undo(), 0);
        is("undo() with none", x.undo(), NOTHING);
        is("restore() with none", x.restore(), NOTHING);
        x.hang(0, 1);
        isText("all of it is as before", whole(x), before);
        runEmptiesTheText();
    }

    /** A text that is read behind another one has none of its characters, whatever became of that one. */
    private void runEmptiesTheText() {
        for (String earlier : new String[] {"tick 12;tick 34", "tick 12;tick 00", "tick 12;tick 3.", "set 00+;cut 0.0;;;"}) {
            for (String text : new String[] {"", "t", "tick", "tick ", "tick 1;", "tick 1;tick ", "set 0", "set 00"}) {
                LanternLogic x = Help.hung("01");
                Help.run(x, earlier);
                is("account(11) behind '" + earlier + "'", x.account(11), 0);
                is("run() of '" + text + "'", Help.run(x, text), -1000 - text.length());
            }
            LanternLogic y = Help.hung("01");
            Help.run(y, earlier);
            int ticks = y.account(0);
            is("run() of 'tick 1'", Help.run(y, "tick 1"), 1);
            is("account(0) behind '" + earlier + "'", y.account(0), ticks + 1);
        }
    }

    private void leavesAll(String name, int code, Call... calls) {
        for (Call call : calls) {
            LanternLogic x = busy();
            LanternLogic twin = busy();
            is(name, call.on(x), code);
            isText("state behind " + name, Help.state(x), Help.state(twin));
            is("account(11) behind " + name, x.account(11), name.equals("run") ? 0 : 2);
            isText("the line behind " + name, Help.line(x, 10), Help.line(twin, 10));
            if (code != REFUSED) {
                isText("reasons behind " + name, Help.reasons(x), "7:0");
            }
            for (int undoable = twin.account(12); undoable > 0; undoable--) {
                is("undo() behind " + name, x.undo(), twin.undo());
                is("account(7) behind " + name, x.account(7), twin.account(7));
                is("account(3) behind " + name, x.account(3), twin.account(3));
            }
            is("restore() behind " + name, x.restore(), 5);
            is("account(3) behind " + name, x.account(3), 0);
        }
    }

    private void firstCode() {
        says("Codes", "If several codes apply, the one that is listed first is returned.");
        LanternLogic full = sixteen(3);
        is("hang, BAD and REFUSED", full.hang(7, 1), BAD);
        is("hang, BAD and REFUSED", full.hang(0, 0), BAD);
        LanternLogic x = Help.hung("01 31 11");
        is("wire, NONE and BAD", x.wire(3, 3, 0), NONE);
        is("wire, NONE and BAD", x.wire(1, -1, 3), NONE);
        is("wire, NONE and REFUSED", x.wire(0, 0, 3), NONE);
        is("wire, BAD and REFUSED", x.wire(0, 3, 1), BAD);
        is("cut, NONE and BAD", x.cut(3, 3), NONE);
        is("cut, BAD and REFUSED", x.cut(0, 3), BAD);
        is("lanternOf, NONE and BAD", x.lanternOf(3, 8), NONE);
        is("lanternOf, NONE and BAD", x.lanternOf(-1, -1), NONE);
        is("wireOf, NONE and BAD", x.wireOf(3, 3), NONE);
        is("wireOf, BAD and NOTHING", x.wireOf(0, 3), BAD);
        is("flickers, NONE and BAD", x.flickers(0, 3), NONE);
        is("flickers, NONE and BAD", x.flickers(3, 1), NONE);
        x.wire(2, 0, 0);
        is("flickers, NONE and NOTHING", x.flickers(2, 3), NONE);
        is("flickers, BAD and NOTHING", x.flickers(0, 0), BAD);
        is("flickers, BAD and NOTHING", x.flickers(2, 1), BAD);
        is("flickers, NOTHING", x.flickers(2, 0), NOTHING);
        isText("reasons", Help.reasons(x), "");
        for (int i = 0; i < 60; i++) {
            x.append('t');
        }
        is("append, BAD and FULL", x.append(31), BAD);
        is("append, BAD and FULL", x.append(127), BAD);
        is("append, FULL", x.append(126), FULL);
        x.run();
        is("run, wrong and REFUSED", Help.run(x, "set 0-;x"), -1007);
        isText("reasons", Help.reasons(x), "");
    }

    private void neitherUndoneNorSaved() {
        says("Codes", "The text, the line and the reasons are neither undone nor saved, and stay.");
        LanternLogic x = Help.hung("01 11");
        x.append('t');
        x.tell();
        x.wire(0, 0, 0);
        x.save();
        x.append('i');
        x.tellLantern(1);
        x.tick(1);
        x.set(1, true);
        x.undo();
        is("account(11) behind undo", x.account(11), 2);
        isText("the line behind undo", Help.line(x, 9), "1:not1(-)");
        isText("reasons behind undo", Help.reasons(x), "6:1");
        x.restore();
        is("account(11) behind restore", x.account(11), 2);
        isText("the line behind restore", Help.line(x, 9), "1:not1(-)");
        isText("reasons behind restore", Help.reasons(x), "6:1");
        is("run() of what stayed", Help.run(x, "ck 7"), 1);
        x.undo();
        is("account(11), the text that run emptied", x.account(11), 0);
        x.append('x');
        x.restore();
        is("account(11)", x.account(11), 1);
        is("run()", x.run(), -1000);
    }
}
