/** Promises 21 to 25: texts, the orders in them, and lines. */
public final class TextsTest {
    private static final Due due = new Due();

    public static void main(String[] args) {
        append();
        runOrders();
        runWrong();
        runEachPosition();
        runRefused();
        runAllOrNone();
        runIsOneChange();
        runEmptiesTheText();
        tell();
        tellLantern();
        character();
        due.end("TextsTest");
    }

    private static void append() {
        due.part("promise 21");
        LanternLogic x = new LanternLogic();
        for (int code : new int[] {31, 127, 0, -1, 256 + 65, 65536 + 65, Integer.MIN_VALUE, Integer.MAX_VALUE}) {
            due.is("append(" + code + ")", x.append(code), Help.BAD);
        }
        due.is("account(11)", x.account(11), 0);
        due.is("append(32)", x.append(32), 1);
        due.is("append(126)", x.append(126), 2);
        for (int length = 3; length <= 60; length++) {
            due.is("append(59)", x.append(59), length);
        }
        due.is("append(59)", x.append(59), Help.FULL);
        due.is("append(31)", x.append(31), Help.BAD);
        due.is("append(127)", x.append(127), Help.BAD);
        due.is("account(11)", x.account(11), 60);
        due.is("account(12)", x.account(12), 0);
    }

    private static void runOrders() {
        due.part("promise 22");
        LanternLogic x = new LanternLogic();
        due.is("run()", Help.run(x, "hang 0*4;hang 5*2;hang 6*1;wire 1.0<0;wire 2.0<1;set 0+"), 6);
        due.isText("all", Help.all(x), "#..");
        due.is("run()", Help.run(x, "tick 2"), 1);
        due.isText("all", Help.all(x), "##.");
        due.is("run()", Help.run(x, "tick 01;set 00-;cut 01.0;tick 9;wire 1.2<02"), 5);
        due.isText("state", Help.state(x),
            "12 3 1 2 0 2 1 6 4 2 0 |0 4 0 0 0 2 0 0 -15 -15 -15 "
            + "|5 2 0 1 1 2 0 0 -15 -15 2 |6 1 0 1 1 2 0 0 1 -15 -15 ");
        due.is("run() of eight orders", Help.run(x, "tick 1;tick 2;tick 3;tick 4;tick 5;tick 6;tick 7;tick 8"), 8);
        due.is("account(0)", x.account(0), 48);
        due.is("run()", Help.run(x, "tick 99"), 1);
        due.is("account(0)", x.account(0), 147);
        LanternLogic y = Help.hung("01 01 01 01 01 01 01 01 01 01 01 31 61 61 61 61");
        due.is("run() with two digits", Help.run(y, "wire 11.2<10;wire 12.0<11;set 10+;wire 13.0<9;tick 10"), 5);
        due.is("wireOf(11, 2)", y.wireOf(11, 2), 10);
        due.is("wireOf(12, 0)", y.wireOf(12, 0), 11);
        due.is("wireOf(13, 0)", y.wireOf(13, 0), 9);
        due.isText("all", Help.all(y), "..........###...");
        due.is("run()", Help.run(y, "cut 12.0;set 10-"), 2);
        due.is("wireOf(12, 0)", y.wireOf(12, 0), Help.NOTHING);
        due.is("lanternOf(10, 2)", y.lanternOf(10, 2), 0);
    }

    private static void wrong(String text, int position) {
        LanternLogic x = Help.hung("01 31");
        String before = Help.state(x);
        Help.write(x, text);
        due.is("run() of '" + text + "'", x.run(), -1000 - position);
        due.is("account(11) behind '" + text + "'", x.account(11), 0);
        due.is("account(12) behind '" + text + "'", x.account(12), 2);
        due.isText("state behind '" + text + "'", Help.state(x), before);
        due.isText("reasons behind '" + text + "'", Help.reasons(x), "");
    }

    private static void runWrong() {
        due.part("promise 22, fault positions");
        wrong("", 0);
        wrong(";", 0);
        wrong(" ", 0);
        wrong("x", 0);
        wrong("Hang 1*1", 0);
        wrong("hang", 4);
        wrong("hang ", 5);
        wrong("hang1", 4);
        wrong("hang  1*1", 5);
        wrong("hang *1", 5);
        wrong("hang 11*1", 6);
        wrong("hang 1*", 7);
        wrong("hang 1**", 7);
        wrong("hang 1*12", 8);
        wrong("hang 1*1 ", 8);
        wrong("hang 1*1;", 9);
        wrong("hang 1*1;;", 9);
        wrong("hang 1*1; tick 1", 9);
        wrong("hung 1*1", 1);
        wrong("wire 1.1", 8);
        wrong("wire 1.1<", 9);
        wrong("wire 1.1<-", 9);
        wrong("wire 1.12<0", 8);
        wrong("wire 111.1<0", 7);
        wrong("wire .1<0", 5);
        wrong("wire 1.<0", 7);
        wrong("wire 1,1<0", 6);
        wrong("wire 1.1>0", 8);
        wrong("wire 1.1<000", 11);
        wrong("wire 1.1<0.", 10);
        wrong("wirf 1.1<0", 3);
        wrong("cut 1", 5);
        wrong("cut 1.", 6);
        wrong("cut 1.1<0", 7);
        wrong("cut 1.1.", 7);
        wrong("cat 1.1", 1);
        wrong("set 0", 5);
        wrong("set 00", 6);
        wrong("set 000", 6);
        wrong("set 0*", 5);
        wrong("set 0++", 6);
        wrong("set +", 4);
        wrong("sey", 2);
        wrong("tick ", 5);
        wrong("tick +", 5);
        wrong("tick -1", 5);
        wrong("tick 100", 7);
        wrong("tick 1 ", 6);
        wrong("tick 1;t", 8);
        wrong("tick 1;tack", 8);
        wrong("tick 1,tick 1", 6);
        wrong("tick 1;tick 1;tick 1;tick 1;tick 1;tick 1;tick 1;tick 1;tick", 60);
        wrong("tick /", 5);
        wrong("tick :", 5);
        wrong("set 1/", 5);
        wrong("set 1:", 5);
    }

    /** Each text that is cut off ends too early, and each with a sign put in is wrong right there. */
    private static void runEachPosition() {
        due.part("promise 22, each position");
        for (String order : new String[] {"hang 1*1", "wire 10.1<10", "cut 10.1", "set 10+", "set 10-", "tick 10"}) {
            for (int at = 0; at < order.length(); at++) {
                wrong(order.substring(0, at) + "~" + order.substring(at), at);
                wrong("tick 1;" + order.substring(0, at) + "~", 7 + at);
                boolean canEnd = order.startsWith("0", at) && at == order.length() - 1;
                if (!canEnd) {
                    wrong(order.substring(0, at), at);
                    wrong(order + ";" + order.substring(0, at), order.length() + 1 + at);
                }
            }
        }
    }

    private static void refused(LanternLogic x, String text, String reasons) {
        String before = Help.state(x);
        int undoable = x.account(12);
        due.is("run() of '" + text + "'", Help.run(x, text), Help.REFUSED);
        due.isText("reasons behind '" + text + "'", Help.reasons(x), reasons);
        due.isText("state behind '" + text + "'", Help.state(x), before);
        due.is("account(11) behind '" + text + "'", x.account(11), 0);
        due.is("account(12) behind '" + text + "'", x.account(12), undoable);
    }

    private static void runRefused() {
        due.part("promise 22, reasons");
        refused(Help.hung("01 31 11 41"), "hang 7*1", "10:0 13:-12");
        refused(Help.hung("01 31 11 41"), "tick 1;hang 1*0", "10:1 13:-12");
        refused(Help.hung("01 31 11 41"), "hang 1*5", "10:0 13:-12");
        refused(Help.hung("01 31 11 41"), "wire 4.0<0", "10:0 13:-11");
        refused(Help.hung("01 31 11 41"), "wire 1.0<4", "10:0 13:-11");
        refused(Help.hung("01 31 11 41"), "wire 1.3<0", "10:0 13:-12");
        refused(Help.hung("01 31 11 41"), "wire 99.9<99", "10:0 13:-11");
        refused(Help.hung("01 31 11 41"), "wire 0.0<1", "10:0 2:0");
        refused(Help.hung("01 31 11 41"), "set 0+;wire 2.1<1", "10:1 3:1");
        refused(Help.hung("01 31 11 41"), "wire 1.0<0;wire 1.0<0", "10:1 4:0");
        refused(Help.hung("01 31 11 41"), "cut 4.0", "10:0 13:-11");
        refused(Help.hung("01 31 11 41"), "cut 1.3", "10:0 13:-12");
        refused(Help.hung("01 31 11 41"), "cut 3.2", "10:0 3:2");
        refused(Help.hung("01 31 11 41"), "cut 3.1", "10:0 5:1");
        refused(Help.hung("01 31 11 41"), "set 4+", "10:0 13:-11");
        refused(Help.hung("01 31 11 41"), "set 3+", "10:0 6:4");
        refused(Help.hung("01 31 11 41"), "set 0-", "10:0 7:0");
        refused(Help.hung("01 31 11 41"), "set 0+;set 0+", "10:1 7:0");
        refused(Help.hung("01 31 11 41"), "tick 0", "10:0 13:-12");
        refused(Help.hung("01 31 11 41"), "tick 00", "10:0 13:-12");
        LanternLogic x = Help.hung("01 31 11 41");
        x.loops(false);
        refused(x, "wire 1.0<3;wire 3.0<2;wire 2.0<1", "10:2 8:1 11:3");
        refused(x, "tick 1;tick 1;tick 1;tick 1;tick 1;tick 1;tick 1;wire 1.0<1", "10:7 8:1 11:1");
        LanternLogic full = new LanternLogic();
        for (int k = 0; k < 16; k++) {
            full.hang(0, 1);
        }
        refused(full, "hang 1*1", "10:0 1:16");
    }

    private static void runAllOrNone() {
        due.part("promise 22, all or none");
        LanternLogic x = Help.hung("01 11");
        x.wire(1, 0, 0);
        x.tick(1);
        refused(x, "hang 2*2;cut 1.0;set 0+;tick 9;wire 2.0<2;tick 0", "10:5 13:-12");
        due.is("undo() of the tick", x.undo(), 3);
        due.isText("all", Help.all(x), "..");
        due.is("wireOf(1, 0)", x.wireOf(1, 0), 0);
        LanternLogic full = new LanternLogic();
        for (int i = 0; i < 9; i++) {
            full.loops(true);
        }
        refused(full, "tick 1;tick 1;tick 0", "10:2 13:-12");
        due.is("undo()", full.undo(), 7);
    }

    private static void runIsOneChange() {
        due.part("promise 22, one change");
        LanternLogic x = Help.hung("01 11");
        String before = Help.state(x);
        due.is("run()", Help.run(x, "wire 1.0<0;tick 3;set 0+;hang 4*2"), 4);
        due.is("account(12)", x.account(12), 3);
        due.is("undo()", x.undo(), 2);
        due.isText("state", Help.state(x), before);
    }

    private static void runEmptiesTheText() {
        due.part("promise 22, the text is emptied");
        LanternLogic x = new LanternLogic();
        for (String text : new String[] {"tick 1", "tick 0", "tack", ""}) {
            Help.write(x, text);
            due.is("account(11)", x.account(11), text.length());
            x.run();
            due.is("account(11) behind '" + text + "'", x.account(11), 0);
            due.is("append(116)", x.append(116), 1);
            due.is("run()", x.run(), -1001);
        }
        due.isText("reasons are kept behind a wrong text", Help.reasons(x), "10:0 13:-12");
    }

    private static void tell() {
        due.part("promise 23");
        LanternLogic x = new LanternLogic();
        due.is("tell()", x.tell(), 0);
        x.hang(0, 1);
        x.hang(1, 1);
        x.hang(0, 1);
        due.isText("all", Help.all(x), "...");
        x.set(2, true);
        due.isText("all", Help.all(x), "..#");
        for (int k = 3; k < 16; k++) {
            x.hang(0, 1);
            x.set(k, k % 3 == 0);
        }
        due.is("tell()", x.tell(), 16);
        due.isText("all", Help.all(x), "..##..#..#..#..#");
    }

    private static void tellLantern() {
        due.part("promise 24");
        LanternLogic x = Help.hung("04 11 22 33 44 51 62 01 01 01 01 21 31 41 51 63");
        due.isText("one", Help.one(x, 0), "0:switch4");
        due.isText("one", Help.one(x, 1), "1:not1(-)");
        due.isText("one", Help.one(x, 2), "2:and2(-,-,-)");
        due.isText("one", Help.one(x, 3), "3:or3(-,-,-)");
        due.isText("one", Help.one(x, 4), "4:unlike4(-,-)");
        due.isText("one", Help.one(x, 5), "5:most1(-,-,-)");
        due.isText("one", Help.one(x, 6), "6:alike2(-)");
        due.isText("one", Help.one(x, 15), "15:alike3(-)");
        x.set(10, true);
        due.isText("one", Help.one(x, 10), "10:switch1#");
        x.wire(14, 0, 10);
        x.wire(14, 2, 15);
        x.wire(14, 1, 9);
        due.isText("one", Help.one(x, 14), "14:most1(10,9,15)");
        x.cut(14, 1);
        x.cut(14, 2);
        x.tick(1);
        due.isText("one", Help.one(x, 14), "14:most1(10,-,-)#");
        x.wire(2, 1, 3);
        due.isText("one", Help.one(x, 2), "2:and2(-,3,-)");
        x.wire(4, 1, 0);
        due.isText("one", Help.one(x, 4), "4:unlike4(-,0)");
        int length = x.tellLantern(4);
        for (int far : new int[] {-1, 16, 17, Integer.MIN_VALUE, Integer.MAX_VALUE}) {
            due.is("tellLantern(far)", x.tellLantern(far), Help.NONE);
        }
        due.isText("the line stays", Help.line(x, length), "4:unlike4(-,0)");
    }

    private static void character() {
        due.part("promise 25");
        LanternLogic x = new LanternLogic();
        for (int far : Help.FAR) {
            due.is("character(far)", x.character(far), Help.NONE);
        }
        due.is("character(0)", x.character(0), Help.NONE);
        x.hang(0, 1);
        due.is("character(0)", x.character(0), Help.NONE);
        x.tellLantern(0);
        due.is("character(0)", x.character(0), '0');
        due.is("character(1)", x.character(1), ':');
        due.is("character(8)", x.character(8), '1');
        due.is("character(9)", x.character(9), Help.NONE);
        x.set(0, true);
        due.is("character(8), written before", x.character(8), '1');
        due.is("character(9), written before", x.character(9), Help.NONE);
        x.tell();
        due.is("character(0)", x.character(0), '#');
        due.is("character(1), in place of the line before", x.character(1), Help.NONE);
        x.undo();
        due.is("character(0), the line is not undone", x.character(0), '#');
        for (int far : Help.FAR) {
            due.is("character(far)", x.character(far), Help.NONE);
        }
    }
}
