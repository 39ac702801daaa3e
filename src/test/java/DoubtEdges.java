/** Sentences on what is in doubt, of the constants, and on what the class is. */
final class DoubtEdges extends Edges {
    private static final String DOUBT = "In doubt";

    DoubtEdges(Due due, Sentences sentences) {
        super(due, sentences);
    }

    @Override
    void all() {
        switchWick();
        foundValues();
        darkAtFirst();
        wiresLeaveThem();
        loopOfOne();
        switchInNoLoop();
        settledWithoutGates();
        repeatsFromNow();
        allRows();
        rowZeroAlone();
        noTableOfASwitch();
        switchFindsNothing();
        secondWayTellsTheSame();
        constants();
        calls();
    }

    private void switchWick() {
        says(DOUBT, "A switch has a wick, too, which does nothing.");
        for (int wick = 1; wick <= 4; wick++) {
            LanternLogic x = Help.hung("0" + wick + " 61");
            x.wire(1, 0, 0);
            is("lanternOf(0, 1)", x.lanternOf(0, 1), wick);
            isText("one", Help.one(x, 0), "0:switch" + wick);
            is("set(0, true)", x.set(0, true), 1);
            is("lanternOf(0, 2) at once", x.lanternOf(0, 2), 1);
            is("lanternOf(0, 7)", x.lanternOf(0, 7), 0);
            is("settlesIn()", x.settlesIn(), 1);
            is("depth(0)", x.depth(0), 0);
            is("depth(1)", x.depth(1), 1);
            is("depthAgain(1)", x.depthAgain(1), 1);
            is("account(10)", x.account(10), 1);
            is("tick(1)", x.tick(1), 1);
            is("set(0, false)", x.set(0, false), 1);
            is("lanternOf(0, 2) at once", x.lanternOf(0, 2), 0);
            isShare("meanWick()", x.meanWick(), 1.0);
        }
        is("hang(0, 0)", new LanternLogic().hang(0, 0), BAD);
        is("hang(0, 5)", new LanternLogic().hang(0, 5), BAD);
    }

    private void foundValues() {
        says(DOUBT, "What a gate found in ticks that still count is as many values as its wick is, less 1;");
        int[] most = {0, 1, 3, 7};
        for (int wick = 1; wick <= 4; wick++) {
            LanternLogic x = Help.hung("01 6" + wick);
            x.wire(1, 0, 0);
            x.set(0, true);
            for (int t = 1; t <= 6; t++) {
                x.tick(1);
                int found = most[wick - 1] & ~(most[wick - 1] >> Math.min(t, 4));
                is("lanternOf(1, 7) with the wick " + wick + " behind " + t, x.lanternOf(1, 7), found);
            }
            is("settlesIn()", x.settlesIn(), 0);
        }
    }

    private void darkAtFirst() {
        says(DOUBT, "all are dark at first.");
        for (int kind = 1; kind <= 6; kind++) {
            LanternLogic x = Help.hung("01");
            x.set(0, true);
            x.tick(9);
            x.hang(kind, 4);
            is("lanternOf(1, 7) of the kind " + kind, x.lanternOf(1, 7), 0);
            x.wire(1, 0, 0);
            is("lanternOf(1, 7) of the kind " + kind + " as soon as it has a wire", x.lanternOf(1, 7), 0);
            isText("the kind " + kind, seen(x, 1, 4), kind == 1 ? "....." : "....#");
        }
        LanternLogic y = Help.hung("01 14");
        y.wire(1, 0, 0);
        y.tick(3);
        is("lanternOf(1, 7)", y.lanternOf(1, 7), 7);
        for (int i = 0; i < 3; i++) {
            y.undo();
        }
        y.hang(6, 4);
        is("lanternOf(1, 7) of one in place of one that was undone", y.lanternOf(1, 7), 0);
    }

    private void wiresLeaveThem() {
        says(DOUBT, "Wires that are put or cut leave these values as they are.");
        LanternLogic x = Help.hung("01 34 01");
        x.wire(1, 0, 0);
        x.set(0, true);
        x.tick(2);
        is("lanternOf(1, 7)", x.lanternOf(1, 7), 6);
        x.wire(1, 2, 2);
        is("lanternOf(1, 7) with another wire", x.lanternOf(1, 7), 6);
        x.cut(1, 0);
        is("lanternOf(1, 7) with one cut", x.lanternOf(1, 7), 6);
        x.cut(1, 2);
        is("lanternOf(1, 7) with none left", x.lanternOf(1, 7), 6);
        isText("what was found comes", seen(x, 1, 5), "..##..");
        LanternLogic y = Help.hung("01 61");
        y.wire(1, 0, 0);
        y.set(0, true);
        y.tick(1);
        y.cut(1, 0);
        is("lanternOf(1, 2), it still glows", y.lanternOf(1, 2), 1);
    }

    private void loopOfOne() {
        says(DOUBT, "A wire from a lantern to itself closes a loop of 1 wire.");
        int[] places = {0, 1, 3, 3, 2, 3, 1};
        for (int kind = 1; kind <= 6; kind++) {
            LanternLogic x = Help.hung("01 " + kind + "1");
            x.loops(false);
            for (int place = 0; place < places[kind]; place++) {
                isRefused("wire(1, " + place + ", 1)", x, x.wire(1, place, 1), "8:1 11:1");
            }
            x.loops(true);
            is("wire(1, 0, 1)", x.wire(1, 0, 1), 1);
            is("looped()", x.looped(), 2);
            isRefused("loops(false)", x, x.loops(false), "9:1 12:1");
        }
    }

    private void switchInNoLoop() {
        says(DOUBT, "A switch is in no loop, as no wire leads to it.");
        LanternLogic x = Help.hung("01 31");
        for (int place = 0; place < 3; place++) {
            isRefused("wire(0, " + place + ", 1)", x, x.wire(0, place, 1), "2:0");
            isRefused("wire(0, " + place + ", 0)", x, x.wire(0, place, 0), "2:0");
        }
        x.wire(1, 0, 0);
        x.wire(1, 1, 1);
        is("looped()", x.looped(), 2);
        is("account(5)", x.account(5), 1);
        is("depth(0)", x.depth(0), 0);
        is("depthAgain(0)", x.depthAgain(0), 0);
        isRefused("loops(false)", x, x.loops(false), "9:1 12:1");
    }

    private void settledWithoutGates() {
        says(DOUBT, "All is settled without gates.");
        is("settlesIn() without lanterns", new LanternLogic().settlesIn(), 0);
        LanternLogic x = sixteen(0);
        is("settlesIn() of switches", x.settlesIn(), 0);
        x.set(3, true);
        is("settlesIn() of a switch that glows", x.settlesIn(), 0);
        is("period()", x.period(), 1);
        is("periodAgain()", x.periodAgain(), 1);
        is("tick(99)", x.tick(99), 0);
    }

    /** All that repeats, as it can be asked. */
    private static String look(LanternLogic x) {
        StringBuilder look = new StringBuilder();
        for (int k = 0; k < x.account(1); k++) {
            look.append(x.lanternOf(k, 2)).append(x.lanternOf(k, 7)).append(' ');
        }
        return look.toString();
    }

    private void repeatsFromNow() {
        says(DOUBT, "What repeats is asked for the state now, too: after as many ticks as are told, all is as it was at a"
            + " tick ahead, 256 ticks included.");
        int[][] rings = {{1, 1}, {2, 3}, {5, 7}, {9, 14}, {8, 15}};
        for (int[] ring : rings) {
            LanternLogic x = LongRuns.rings(ring[0], ring[1]);
            goesBack(x, x.period());
            goesBack(x, x.periodAgain());
        }
        LanternLogic settled = sixteen(0);
        is("period() of what is settled", settled.period(), 1);
        LanternLogic most = LongRuns.counter();
        most.tick(99);
        is("period()", most.period(), 256);
        is("periodAgain()", most.periodAgain(), 256);
        goesBack(most, 256);
    }

    /** As many ticks bring all back, and no fewer do, if that many stand no more than a few calls away. */
    private void goesBack(LanternLogic x, int ticks) {
        String before = look(x);
        int gone = 0;
        while (ticks - gone > 99) {
            x.tick(99);
            gone += 99;
            isTrue("all is other behind " + gone + " ticks", !look(x).equals(before));
        }
        if (ticks - gone > 1) {
            x.tick(ticks - gone - 1);
            isTrue("all is other a tick ahead of " + ticks, !look(x).equals(before));
        }
        x.tick(1);
        isText("all is as it was behind " + ticks, look(x), before);
    }

    private void areTables(String what, LanternLogic x, int gate, int want) {
        is("table(" + gate + ") " + what, x.table(gate), want);
        is("tableAgain(" + gate + ") " + what, x.tableAgain(gate), want);
    }

    private void allRows() {
        says(DOUBT, "A table has all its rows, also if the gate does not look at a switch that leads to it;");
        LanternLogic x = Help.hung("01 41 01 31 11");
        x.wire(1, 0, 0);
        x.wire(1, 1, 0);
        areTables("which finds dark, whatever its switch is", x, 1, 0);
        x.wire(4, 0, 1);
        areTables("which glows, whatever its switch is", x, 4, 0b11);
        x.wire(3, 0, 1);
        x.wire(3, 1, 2);
        is("switchesOf(3)", x.switchesOf(3), 0b101);
        areTables("which glows by the one of two", x, 3, 0b1100);
        x.cut(3, 0);
        is("switchesOf(3), the other one does not lead to it", x.switchesOf(3), 0b100);
        areTables("which glows by the only one", x, 3, 0b10);
    }

    private void rowZeroAlone() {
        says(DOUBT, "a gate to which no switch leads has a table with the row 0 alone.");
        LanternLogic x = Help.hung("01 11 13 61 31");
        x.wire(1, 0, 2);
        x.wire(3, 0, 1);
        x.set(0, true);
        areTables("of no switch, which glows in the end", x, 1, 1);
        areTables("without wires", x, 2, 0);
        areTables("of no switch, behind it", x, 3, 1);
        areTables("without wires", x, 4, 0);
    }

    private void noTableOfASwitch() {
        says(DOUBT, "A switch has no table.");
        LanternLogic x = Help.hung("01 04 61");
        x.wire(2, 0, 1);
        x.set(0, true);
        for (int k = 0; k < 2; k++) {
            areTables("of a switch", x, k, NOTHING);
        }
        areTables("of a gate", x, 2, 0b10);
    }

    private void switchFindsNothing() {
        says(DOUBT, "A switch finds nothing, whether it glows or not.");
        LanternLogic x = Help.hung("01 04");
        for (int i = 0; i < 2; i++) {
            for (int k = 0; k < 2; k++) {
                is("lanternOf(" + k + ", 6)", x.lanternOf(k, 6), 0);
                is("lanternOf(" + k + ", 7)", x.lanternOf(k, 7), 0);
                x.set(k, i == 0);
                is("lanternOf(" + k + ", 6)", x.lanternOf(k, 6), 0);
                is("lanternOf(" + k + ", 7)", x.lanternOf(k, 7), 0);
            }
            x.tick(5);
        }
    }

    /** A row of as many ticks ahead of a not by itself, so that its period comes late. */
    private static LanternLogic late(int ticks, int period) {
        LanternLogic x = new LanternLogic();
        x.hang(0, 1);
        int last = 0;
        int left = ticks;
        while (left > 0) {
            int next = x.hang(6, Math.min(4, left));
            x.wire(next, 0, last);
            last = next;
            left -= 4;
        }
        int not = x.hang(1, period / 2);
        x.wire(not, 0, not);
        x.set(0, true);
        return x;
    }

    private void secondWayTellsTheSame() {
        says(DOUBT, "The second way of telling when all repeats tells the same, if something repeats within 256 ticks.");
        for (int ticks = 0; ticks <= 56; ticks++) {
            for (int period = 2; period <= 8; period += 2) {
                LanternLogic x = late(ticks, period);
                is("period() of " + period + " behind " + ticks, x.period(), period);
                is("periodAgain() of " + period + " behind " + ticks, x.periodAgain(), period);
            }
        }
        LanternLogic edge = LongRuns.edge();
        edge.tick(1);
        is("period() of 252 behind 4", edge.period(), 252);
        is("periodAgain() of 252 behind 4", edge.periodAgain(), 252);
        LanternLogic settles = LongRuns.settlingBehind(255);
        for (int ticks = 255; ticks >= 0; ticks -= 15) {
            is("settlesIn()", settles.settlesIn(), ticks);
            is("period() of what is settled behind " + ticks, settles.period(), 1);
            is("periodAgain() of what is settled behind " + ticks, settles.periodAgain(), 1);
            settles.tick(15);
        }
    }

    private void constants() {
        LanternLogic x = sixteen(0);
        says("Constants", "The constants: `NONE = -11`: There is no such number.");
        is("NONE", LanternLogic.NONE, -11);
        is("leads(16)", x.leads(16), -11);

        says("Constants", "`BAD = -12`: A number is out of range.");
        is("BAD", LanternLogic.BAD, -12);
        is("tick(100)", x.tick(100), -12);

        says("Constants", "`FULL = -13`: There is no room for more.");
        is("FULL", LanternLogic.FULL, -13);
        for (int i = 0; i < 60; i++) {
            x.append(32);
        }
        is("append(32)", x.append(32), -13);

        says("Constants", "`REFUSED = -14`: It is refused for a reason.");
        is("REFUSED", LanternLogic.REFUSED, -14);
        is("hang(0, 1)", x.hang(0, 1), -14);
        is("reason(0, false)", x.reason(0, false), 1);

        says("Constants", "`NOTHING = -15`: There is nothing of this kind.");
        is("NOTHING", LanternLogic.NOTHING, -15);
        is("restore()", x.restore(), -15);
    }

    private void calls() {
        says("What it is", "An object is used for at most 512 calls after it has been made;");
        LanternLogic x = Help.hung("11");
        x.wire(0, 0, 0);
        for (int call = 3; call <= 512; call++) {
            is("tick(99) as call " + call, x.tick(99), 99);
        }
        LanternLogic y = LongRuns.rings(17, 29);
        for (int call = 100; call <= 512; call++) {
            is("periodAgain() as call " + call, call % 2 == 0 ? y.period() : y.periodAgain(), NOTHING);
        }
        LanternLogic z = new LanternLogic();
        for (int call = 1; call <= 509; call += 3) {
            is("hang(0, 1) as call " + call, z.hang(0, 1), 0);
            is("undo() as call " + (call + 1), z.undo(), 0);
            is("undo() as call " + (call + 2), z.undo(), NOTHING);
        }
    }
}
