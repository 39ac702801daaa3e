/** Promises 14 to 20: settling, repeating, flickering, and tables. */
public final class ComingTest {
    private static final Due due = new Due();

    public static void main(String[] args) {
        settlesIn();
        settlesLate();
        periods();
        periodsAtTheEdge();
        flickers();
        flickersRefused();
        switchesOf();
        tables();
        tablesMissing();
        nothingIsChanged();
        due.end("ComingTest");
    }

    private static void settlesIn() {
        due.part("promise 14");
        due.is("settlesIn() of switches", Help.hung("01 02").settlesIn(), 0);
        LanternLogic x = Help.hung("01 63 62");
        x.wire(1, 0, 0);
        x.wire(2, 0, 1);
        due.is("settlesIn() all dark", x.settlesIn(), 0);
        x.set(0, true);
        due.is("settlesIn()", x.settlesIn(), 5);
        x.tick(2);
        due.is("settlesIn()", x.settlesIn(), 3);
        x.set(0, false);
        due.is("settlesIn()", x.settlesIn(), 5);
        x.set(0, true);
        x.tick(3);
        due.is("settlesIn()", x.settlesIn(), 0);
        LanternLogic flash = Help.hung("01 64");
        flash.wire(1, 0, 0);
        flash.set(0, true);
        flash.tick(1);
        flash.set(0, false);
        due.isText("all", Help.all(flash), "..");
        due.is("settlesIn() with values that still count", flash.settlesIn(), 4);
        flash.tick(4);
        due.is("settlesIn()", flash.settlesIn(), 0);
        LanternLogic not = Help.hung("11");
        not.wire(0, 0, 0);
        due.is("settlesIn() of a not by itself", not.settlesIn(), Help.NOTHING);
        LanternLogic latch = Help.hung("01 31");
        latch.wire(1, 0, 0);
        latch.wire(1, 1, 1);
        latch.set(0, true);
        latch.tick(1);
        latch.set(0, false);
        due.is("settlesIn() of a loop", latch.settlesIn(), 0);
        due.isText("all", Help.all(latch), ".#");
    }

    /** Ticks till a ring of two flashes, of the periods p and p + 1, meets its and; the flash then stays. */
    private static void settlesLate() {
        due.part("promise 14, late");
        LanternLogic slow = LongRuns.settling();
        int first = slow.settlesIn();
        due.isTrue("it is not settled within 256 ticks at first", first == Help.NOTHING);
        int gone = 0;
        while (slow.settlesIn() == Help.NOTHING && gone < 400) {
            slow.tick(1);
            gone++;
        }
        due.is("settlesIn() as soon as it is told", slow.settlesIn(), 256);
        due.is("period() then", slow.period(), Help.NOTHING);
        due.is("periodAgain() then", slow.periodAgain(), Help.NOTHING);
        slow.tick(1);
        due.is("settlesIn()", slow.settlesIn(), 255);
        due.is("period()", slow.period(), 1);
        due.is("periodAgain()", slow.periodAgain(), 1);
    }

    private static void both(String what, LanternLogic x, int want) {
        due.part("promises 15 and 16, " + what);
        due.is("period()", x.period(), want);
        due.is("periodAgain()", x.periodAgain(), want);
    }

    private static void periods() {
        both("no lanterns", new LanternLogic(), 1);
        both("switches", Help.hung("01 01"), 1);
        LanternLogic x = Help.hung("01 63");
        x.wire(1, 0, 0);
        x.set(0, true);
        both("it settles", x, 1);
        for (int wick = 1; wick <= 4; wick++) {
            LanternLogic not = Help.hung("1" + wick);
            not.wire(0, 0, 0);
            both("a not by itself with the wick " + wick, not, 2 * wick);
        }
        LanternLogic three = Help.hung("12 13 14");
        for (int k = 0; k < 3; k++) {
            three.wire(k, 0, k);
        }
        both("rings of 4, 6 and 8", three, 24);
        LanternLogic late = Help.hung("01 64 64 13 31");
        late.wire(1, 0, 0);
        late.wire(2, 0, 1);
        late.wire(3, 0, 3);
        late.set(0, true);
        both("a ring of 6 that does not wait for the others", late, 6);
        late.tick(3);
        both("the same later", late, 6);
    }

    private static void periodsAtTheEdge() {
        LanternLogic rings = LongRuns.rings(6, 7);
        both("rings of 12 and 14", rings, 84);
        both("rings of 24 and 30", LongRuns.rings(12, 15), 120);
        both("rings of 18 and 26", LongRuns.rings(9, 13), 234);
        both("rings of 16 and 34", LongRuns.rings(8, 17), Help.NOTHING);
        both("rings of 22 and 26", LongRuns.rings(11, 13), Help.NOTHING);
        LanternLogic edge = LongRuns.edge();
        both("252 behind 5 ticks", edge, Help.NOTHING);
        edge.tick(1);
        both("252 behind 4 ticks", edge, 252);
        edge.tick(4);
        both("252 from now on", edge, 252);
        LanternLogic counter = LongRuns.counter();
        for (int i = 0; i < 5; i++) {
            counter.tick(99);
            both("256 from now on", counter, 256);
        }
    }

    private static void flickers() {
        due.part("promise 17");
        LanternLogic x = Help.hung("01 12 41 61");
        x.wire(1, 0, 0);
        x.wire(2, 0, 0);
        x.wire(2, 1, 1);
        x.wire(3, 0, 0);
        x.tick(5);
        due.isText("all", Help.all(x), ".##.");
        due.is("flickers(2, 0), off and on", x.flickers(2, 0), 2);
        due.is("flickers(1, 0), off", x.flickers(1, 0), 0);
        due.is("flickers(3, 0), on", x.flickers(3, 0), 0);
        x.hang(0, 1);
        due.is("flickers(2, 4), by a switch that does not lead to it", x.flickers(2, 4), 0);
        x.set(0, true);
        due.is("flickers(2, 0), not settled", x.flickers(2, 0), Help.NOTHING);
        x.tick(5);
        due.is("flickers(2, 0), back again", x.flickers(2, 0), 2);
        due.isText("all, nothing has changed", Help.all(x), "#.##.");
        LanternLogic y = Help.hung("01 62 64 41 41");
        y.wire(1, 0, 0);
        y.wire(2, 0, 0);
        y.wire(3, 0, 0);
        y.wire(3, 1, 1);
        y.wire(4, 0, 3);
        y.wire(4, 1, 2);
        due.is("flickers(4, 0), on, off, and on", y.flickers(4, 0), 2);
        due.is("flickers(3, 0), on and off", y.flickers(3, 0), 2);
    }

    private static void flickersRefused() {
        due.part("promise 17, codes");
        LanternLogic x = Help.hung("01 11 01");
        due.is("flickers(0, 0)", x.flickers(0, 0), Help.BAD);
        due.is("flickers(0, 1)", x.flickers(0, 1), Help.BAD);
        due.is("flickers(1, 1)", x.flickers(1, 1), Help.BAD);
        due.is("flickers(1, 2)", x.flickers(1, 2), 0);
        due.is("flickers(1, 3)", x.flickers(1, 3), Help.NONE);
        due.is("flickers(0, 3)", x.flickers(0, 3), Help.NONE);
        due.is("flickers(3, 1)", x.flickers(3, 1), Help.NONE);
        for (int far : Help.FAR) {
            due.is("flickers(far, 0)", x.flickers(far, 0), Help.NONE);
            due.is("flickers(1, far)", x.flickers(1, far), Help.NONE);
        }
        LanternLogic waked = Help.hung("01 21 11");
        waked.wire(2, 0, 1);
        waked.wire(1, 0, 2);
        waked.wire(1, 1, 0);
        waked.tick(2);
        due.is("settlesIn()", waked.settlesIn(), 0);
        due.is("flickers(1, 0), never settled then", waked.flickers(1, 0), Help.NOTHING);
        LanternLogic counted = LongRuns.flickering(256);
        due.is("flickers(lantern, 0), settled behind 256 ticks", counted.flickers(LongRuns.LAST, 0), 0);
        LanternLogic tooLong = LongRuns.flickering(257);
        due.is("flickers(lantern, 0), settled behind 257 ticks", tooLong.flickers(LongRuns.LAST, 0), Help.NOTHING);
    }

    private static void switchesOf() {
        due.part("promise 18");
        LanternLogic x = Help.hung("31 01 61 01 31 01");
        x.wire(0, 0, 1);
        x.wire(0, 2, 2);
        x.wire(2, 0, 3);
        x.wire(4, 0, 4);
        x.wire(4, 1, 0);
        due.is("switchesOf(0)", x.switchesOf(0), 2 + 8);
        due.is("switchesOf(1)", x.switchesOf(1), 0);
        due.is("switchesOf(2)", x.switchesOf(2), 8);
        due.is("switchesOf(4), in a loop", x.switchesOf(4), 2 + 8);
        due.is("switchesOf(5)", x.switchesOf(5), 0);
        due.is("switchesOf(6)", x.switchesOf(6), Help.NONE);
        for (int far : Help.FAR) {
            due.is("switchesOf(far)", x.switchesOf(far), Help.NONE);
        }
    }

    private static void tables(String what, LanternLogic x, int lantern, int want) {
        due.part("promises 19 and 20, " + what);
        due.is("table(" + lantern + ")", x.table(lantern), want);
        due.is("tableAgain(" + lantern + ")", x.tableAgain(lantern), want);
    }

    private static void tables() {
        int[] byKind = {0, 0x1, 0x80, 0xFE, 0x6, 0xE8, 0x2};
        int[] places = {0, 1, 3, 3, 2, 3, 1};
        for (int kind = 1; kind <= 6; kind++) {
            tables("kind " + kind, Help.gate(kind, places[kind]), 3, byKind[kind]);
            tables("kind " + kind + " without wires", Help.gate(kind, 0), 3, 0);
        }
        LanternLogic x = Help.hung("01 14 01 44 01 53 01 31");
        x.wire(1, 0, 2);
        x.wire(3, 0, 1);
        x.wire(3, 1, 6);
        x.wire(5, 0, 3);
        x.wire(5, 1, 0);
        x.wire(5, 2, 4);
        tables("not of the only switch", x, 1, 1);
        tables("the lower number is the lower bit", x, 3, 0b1001);
        tables("four switches: 0, 2, 4 and 6", x, 5, fourSwitches());
        x.set(0, true);
        x.set(6, true);
        x.tick(1);
        tables("while switches glow and ticks are still under way", x, 5, fourSwitches());
        tables("a switch", x, 0, Help.NOTHING);
        LanternLogic same = Help.hung("01 41");
        same.wire(1, 0, 0);
        same.wire(1, 1, 0);
        tables("a gate that does not look at its switch", same, 1, 0);
        LanternLogic twice = Help.hung("01 11 41 64");
        twice.wire(1, 0, 0);
        twice.wire(2, 0, 1);
        twice.wire(2, 1, 0);
        twice.wire(3, 0, 2);
        tables("always", twice, 3, 0b11);
        LanternLogic upward = Help.hung("61 41 14 61 01 01");
        upward.wire(0, 0, 1);
        upward.wire(1, 0, 2);
        upward.wire(1, 1, 4);
        upward.wire(2, 0, 3);
        upward.wire(3, 0, 5);
        tables("lanterns that come behind their gates", upward, 0, 0b1001);
        LanternLogic bare = Help.hung("11 14 61");
        bare.wire(0, 0, 1);
        bare.wire(2, 0, 0);
        tables("no switch, the row 0 alone", bare, 0, 1);
        tables("no switch, the row 0 alone", bare, 1, 0);
        tables("no switch, the row 0 alone", bare, 2, 1);
    }

    private static int fourSwitches() {
        int table = 0;
        for (int row = 0; row < 16; row++) {
            int third = (row >> 1 & 1) == (row >> 3 & 1) ? 1 : 0;
            int glowing = third + (row & 1) + (row >> 2 & 1);
            table |= glowing >= 2 ? 1 << row : 0;
        }
        return table;
    }

    private static void tablesMissing() {
        LanternLogic x = Help.hung("01 01 01 01 01 31 31 31 61");
        for (int place = 0; place < 3; place++) {
            x.wire(5, place, place);
        }
        x.wire(6, 0, 5);
        x.wire(6, 1, 3);
        tables("four switches", x, 6, 0xFFFE);
        x.wire(6, 2, 4);
        tables("five switches", x, 6, Help.NOTHING);
        tables("three of them", x, 5, 0xFE);
        x.wire(7, 0, 7);
        x.wire(8, 0, 7);
        tables("in a loop", x, 7, Help.NOTHING);
        tables("behind a loop", x, 8, Help.NOTHING);
        tables("ahead of nothing in a loop", x, 5, 0xFE);
        x.wire(7, 1, 5);
        tables("ahead of a loop", x, 5, 0xFE);
        tables("no such lantern", x, 9, Help.NONE);
        for (int far : Help.FAR) {
            tables("no such lantern", x, far, Help.NONE);
        }
    }

    private static void nothingIsChanged() {
        due.part("promises 10 to 20 change nothing");
        LanternLogic x = LongRuns.edge();
        x.hang(0, 1);
        int last = x.account(1) - 1;
        String before = Help.state(x) + x.account(12);
        x.settlesIn();
        x.period();
        x.periodAgain();
        for (int k = 0; k <= last; k++) {
            x.leads(k);
            x.depth(k);
            x.depthAgain(k);
            x.flickers(k, last);
            x.switchesOf(k);
            x.table(k);
            x.tableAgain(k);
        }
        x.looped();
        due.isText("state", Help.state(x) + x.account(12), before);
    }
}
