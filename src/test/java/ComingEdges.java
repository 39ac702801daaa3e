/** Sentences on what comes, and on tables: the terms, and promises 14 to 20. */
final class ComingEdges extends Edges {
    ComingEdges(Due due, Sentences sentences) {
        super(due, sentences);
    }

    @Override
    void all() {
        settlesIn();
        settledNow();
        settlesNever();
        period();
        periodOfOne();
        periodNever();
        flickers();
        flickersCodes();
        flickersNothing();
        switchesOf();
        switchesOfNone();
        rowsByNumbers();
        rowsWhenSettled();
        atMostFourSwitches();
        table();
        tableCodes();
        tableInThought();
    }

    /** A switch that is set, and as many gates behind it, one behind the other, of the wick. */
    private static LanternLogic row(int gates, int wick) {
        LanternLogic x = new LanternLogic();
        x.hang(0, 1);
        for (int k = 1; k <= gates; k++) {
            x.hang(6, wick);
            x.wire(k, 0, k - 1);
        }
        x.set(0, true);
        return x;
    }

    private void settlesIn() {
        says("Promise 14", "Returns behind how many ticks all is settled, if only ticks go by.", "Returns how many,");
        for (int wick = 1; wick <= 4; wick++) {
            for (int gates = 1; gates <= 15; gates++) {
                LanternLogic x = row(gates, wick);
                is("settlesIn() of " + gates + " gates with the wick " + wick, x.settlesIn(), gates * wick);
                x.tick(gates * wick - 1);
                is("settlesIn(), the last tick", x.settlesIn(), 1);
                x.tick(1);
                is("settlesIn(), as many ticks later", x.settlesIn(), 0);
                isText("all", Help.all(x), "################".substring(15 - gates));
            }
        }
        LanternLogic y = row(3, 4);
        String before = whole(y);
        y.settlesIn();
        isText("no tick has gone by", whole(y), before);
    }

    private void settledNow() {
        says("Promise 14", "0 if it is settled now;");
        is("settlesIn() without lanterns", new LanternLogic().settlesIn(), 0);
        is("settlesIn() of gates without wires", Help.hung("14 24 34 44 54 64").settlesIn(), 0);
        LanternLogic x = Help.hung("01 64");
        x.wire(1, 0, 0);
        is("settlesIn() with all dark", x.settlesIn(), 0);
        x.set(0, true);
        is("settlesIn()", x.settlesIn(), 4);
        x.set(0, false);
        is("settlesIn() set back at once", x.settlesIn(), 0);
        LanternLogic loop = Help.hung("31 01");
        loop.wire(0, 0, 0);
        loop.wire(0, 1, 1);
        is("settlesIn() of a dark loop", loop.settlesIn(), 0);
        loop.set(1, true);
        loop.tick(1);
        loop.set(1, false);
        is("settlesIn() of a glowing loop", loop.settlesIn(), 0);
    }

    private void settlesNever() {
        says("Promise 14", "NOTHING if it is not within 256.");
        is("settlesIn() behind many more", LongRuns.settling().settlesIn(), NOTHING);
        LanternLogic late = LongRuns.settlingBehind(256);
        is("settlesIn() as soon as it is within them", late.settlesIn(), 256);
        late.undo();
        is("settlesIn() behind 257 ticks", late.settlesIn(), NOTHING);
        late.tick(2);
        is("settlesIn()", late.settlesIn(), 255);
        LanternLogic never = Help.hung("14");
        never.wire(0, 0, 0);
        is("settlesIn() of a not by itself", never.settlesIn(), NOTHING);
        never.tick(99);
        is("settlesIn() of a not by itself later", never.settlesIn(), NOTHING);
        never.cut(0, 0);
        isTrue("it is settled soon without its wire", never.settlesIn() > 0 && never.settlesIn() <= 4);
    }

    /** Lanterns that repeat after 256 ticks, from now on. */
    private static LanternLogic counter() {
        LanternLogic x = LongRuns.counter();
        x.tick(99);
        return x;
    }

    /** The same, and a lantern that is dark now, and glows for good behind a tick. */
    private static LanternLogic counterBehindOne() {
        LanternLogic x = counter();
        int last = x.hang(3, 1);
        x.wire(last, 0, last);
        x.wire(last, 1, 0);
        return x;
    }

    private void period() {
        says("Promise 15", "Returns after how many ticks all repeats, how lanterns are and what gates found that still"
            + " counts, as soon as it does, if only ticks go by: by keeping all that was there.", "Returns how many,");
        for (int wick = 1; wick <= 4; wick++) {
            LanternLogic x = Help.hung("1" + wick);
            x.wire(0, 0, 0);
            is("period() of a not with the wick " + wick, x.period(), 2 * wick);
        }
        LanternLogic waits = Help.hung("01 64 11");
        waits.wire(1, 0, 0);
        waits.wire(2, 0, 2);
        waits.set(0, true);
        is("period() with a wait of 4 ticks ahead", waits.period(), 2);
        String before = whole(waits);
        waits.period();
        isText("no tick has gone by", whole(waits), before);

        says("Promise 16", "Returns the same by a second way: by going on until all is as it was at a tick that is kept,"
            + " which is moved on in time, as long as nothing repeats.", "Returns how many,");
        is("periodAgain() with a wait of 4 ticks ahead", waits.periodAgain(), 2);
        isText("no tick has gone by", whole(waits), before);
        for (int first = 1; first <= 29; first++) {
            for (int second = 1; second <= first; second++) {
                LanternLogic x = LongRuns.rings(first, second);
                int both = 2 * leastMultiple(first, second);
                String rings = " of rings of " + 2 * first + " and " + 2 * second;
                is("period()" + rings, x.period(), both <= 256 ? both : NOTHING);
                is("periodAgain()" + rings, x.periodAgain(), both <= 256 ? both : NOTHING);
            }
        }
    }

    private static int leastMultiple(int first, int second) {
        int multiple = first;
        while (multiple % second != 0) {
            multiple += first;
        }
        return multiple;
    }

    private void periodOfOne() {
        LanternLogic late = row(15, 4);
        LanternLogic none = new LanternLogic();
        LanternLogic held = Help.hung("01 61");
        held.wire(1, 0, 0);
        held.set(0, true);
        held.tick(1);
        says("Promise 15", "1 if it is settled then;");
        is("period() behind 60 ticks", late.period(), 1);
        is("period() without lanterns", none.period(), 1);
        is("period() while lanterns glow", held.period(), 1);

        says("Promise 16", "1 if it is settled then;");
        is("periodAgain() behind 60 ticks", late.periodAgain(), 1);
        is("periodAgain() without lanterns", none.periodAgain(), 1);
        is("periodAgain() while lanterns glow", held.periodAgain(), 1);
    }

    private void periodNever() {
        for (int way = 0; way < 2; way++) {
            says("Promise " + (15 + way), "NOTHING if nothing repeats within 256 ticks.");
            isPeriod("256 ticks from now on", way, counter(), 256);
            LanternLogic behindOne = counterBehindOne();
            isPeriod("256 ticks behind one", way, behindOne, NOTHING);
            behindOne.tick(1);
            isPeriod("256 ticks, one tick later", way, behindOne, 256);
            LanternLogic edge = LongRuns.edge();
            isPeriod("252 ticks behind 5", way, edge, NOTHING);
            edge.tick(1);
            isPeriod("252 ticks behind 4", way, edge, 252);
            isPeriod("252 ticks from now on", way, LongRuns.rings(18, 14), 252);
            isPeriod("258 ticks from now on", way, LongRuns.rings(3, 43), NOTHING);
            LanternLogic settles = LongRuns.settlingBehind(256);
            isPeriod("settled behind 256 ticks, and repeating one later", way, settles, NOTHING);
            settles.tick(1);
            isPeriod("settled behind 255 ticks, and repeating one later", way, settles, 1);
        }
    }

    private void isPeriod(String what, int way, LanternLogic x, int want) {
        is((way == 0 ? "period() of " : "periodAgain() of ") + what, way == 0 ? x.period() : x.periodAgain(), want);
    }

    private void flickers() {
        says("Promise 17", "Returns how often a gate would flicker if a switch was set otherwise now, and ticks went by"
            + " until all is settled: how often it changes, less 1 if it is otherwise in the end.",
            "`lantern`: the gate", "`by`: the switch", "Returns how often;");
        LanternLogic x = Help.hung("01 61 41 62 41 01");
        x.wire(1, 0, 0);
        x.wire(2, 0, 0);
        x.wire(2, 1, 1);
        x.wire(3, 0, 0);
        x.wire(4, 0, 2);
        x.wire(4, 1, 3);
        is("flickers(1, 0), it changes once, for good", x.flickers(1, 0), 0);
        is("flickers(2, 0), it changes twice", x.flickers(2, 0), 2);
        is("flickers(4, 0), it changes once or more", x.flickers(4, 0), changesOf(x, 4, 0));
        is("flickers(1, 5), it does not change", x.flickers(1, 5), 0);
        LanternLogic odd = Help.hung("01 62 64 41 41");
        odd.wire(1, 0, 0);
        odd.wire(2, 0, 1);
        odd.wire(3, 0, 0);
        odd.wire(3, 1, 1);
        odd.wire(4, 0, 3);
        odd.wire(4, 1, 2);
        is("flickers(4, 0), it changes three times", odd.flickers(4, 0), 2);
        is("flickers(3, 0), it changes twice", odd.flickers(3, 0), 2);
        String before = whole(odd);
        odd.flickers(4, 0);
        isText("nothing is different", whole(odd), before);
        odd.set(0, true);
        odd.tick(20);
        is("flickers(4, 0), set to dark", odd.flickers(4, 0), 2);
        flickersByHighest();
    }

    /** The gate 0 flickers by the switch 15, and not by the switch 1. */
    private void flickersByHighest() {
        LanternLogic x = new LanternLogic();
        for (int k = 0; k < 16; k++) {
            x.hang(k == 1 || k == 15 ? 0 : k == 2 ? 6 : 4, 1);
        }
        x.wire(2, 0, 15);
        x.wire(0, 0, 2);
        x.wire(0, 1, 15);
        x.wire(3, 0, 0);
        x.wire(3, 1, 1);
        is("flickers(0, 15)", x.flickers(0, 15), 2);
        is("flickers(0, 1)", x.flickers(0, 1), 0);
        is("flickers(3, 15)", x.flickers(3, 15), 2);
        is("flickers(3, 1)", x.flickers(3, 1), 0);
        x.set(1, true);
        x.tick(1);
        is("flickers(3, 15), off and on", x.flickers(3, 15), 2);
        x.set(15, true);
        x.tick(4);
        is("flickers(3, 15), off and on", x.flickers(3, 15), 2);
        is("flickers(3, 1)", x.flickers(3, 1), 0);
    }

    /** What promise 17 asks for, by setting the switch and letting ticks go by, and all undone then. */
    private static int changesOf(LanternLogic x, int gate, int by) {
        x.save();
        int glowed = x.lanternOf(gate, 2);
        int changed = x.lanternOf(gate, 5);
        x.set(by, x.lanternOf(by, 2) == 0);
        x.tick(99);
        x.tick(99);
        x.tick(99);
        int found = x.lanternOf(gate, 5) - changed - (x.lanternOf(gate, 2) == glowed ? 0 : 1);
        x.restore();
        return found;
    }

    private void flickersCodes() {
        says("Promise 17", "NONE if there is no such lantern;");
        LanternLogic x = Help.hung("01 61");
        for (int far : FAR) {
            is("flickers(" + far + ", 0)", x.flickers(far, 0), NONE);
            is("flickers(1, " + far + ")", x.flickers(1, far), NONE);
            is("flickers(0, " + far + ")", x.flickers(0, far), NONE);
            is("flickers(" + far + ", 1)", x.flickers(far, 1), NONE);
        }
        is("flickers(2, 0)", x.flickers(2, 0), NONE);
        is("flickers(1, 2)", x.flickers(1, 2), NONE);

        says("Promise 17", "BAD if the one is no gate, or the other one no switch;");
        is("flickers(0, 0)", x.flickers(0, 0), BAD);
        is("flickers(0, 1)", x.flickers(0, 1), BAD);
        is("flickers(1, 1)", x.flickers(1, 1), BAD);
        is("flickers(1, 0)", x.flickers(1, 0), 0);
    }

    private void flickersNothing() {
        says("Promise 17", "NOTHING if it is not settled now, or not within 256 ticks then.");
        LanternLogic x = row(1, 1);
        x.hang(0, 1);
        is("flickers(1, 2), not settled now", x.flickers(1, 2), NOTHING);
        is("flickers(1, 0), which would be settled then", x.flickers(1, 0), NOTHING);
        x.tick(1);
        is("flickers(1, 2), settled now", x.flickers(1, 2), 0);
        x.hang(1, 1);
        x.wire(3, 0, 3);
        is("flickers(1, 0), another lantern is not settled", x.flickers(1, 0), NOTHING);
        LanternLogic woken = Help.hung("01 21 11 61");
        woken.wire(2, 0, 1);
        woken.wire(1, 0, 2);
        woken.wire(1, 1, 0);
        woken.wire(3, 0, 0);
        woken.tick(2);
        is("settlesIn()", woken.settlesIn(), 0);
        is("flickers(1, 0), never settled then", woken.flickers(1, 0), NOTHING);
        is("flickers(3, 0), others are never settled then", woken.flickers(3, 0), NOTHING);
        LanternLogic most = LongRuns.flickering(256);
        LanternLogic more = LongRuns.flickering(257);
        is("flickers(12, 0), settled behind 256 ticks", most.flickers(LongRuns.LAST, 0), 0);
        is("flickers(12, 0), settled behind 257 ticks", more.flickers(LongRuns.LAST, 0), NOTHING);
        is("flickers(14, 0), which changes in the tick 256", most.flickers(14, 0), changesOf(most, 14, 0));
        most.set(0, true);
        more.set(0, true);
        is("settlesIn() of the one", most.settlesIn(), 256);
        is("settlesIn() of the other one", more.settlesIn(), NOTHING);
        more.tick(1);
        is("settlesIn() of the other one, a tick later", more.settlesIn(), 256);
        most.tick(99);
        most.tick(99);
        most.tick(57);
        int ahead = most.lanternOf(14, 2);
        is("tick(1), behind which all is settled", most.tick(1), 1);
        is("lanternOf(14, 2), the last that changes", most.lanternOf(14, 2), 1 - ahead);
    }

    private void switchesOf() {
        says("Promise 18", "Returns the switches that lead to a lantern.", "`lantern`: the lantern",
            "Returns the set, bit k for the lantern k;");
        LanternLogic x = new LanternLogic();
        for (int k = 0; k < 16; k++) {
            x.hang(k == 0 || k == 15 || k == 7 ? 0 : 3, 1);
        }
        is("switchesOf(1), none", x.switchesOf(1), 0);
        x.wire(1, 0, 15);
        is("switchesOf(1), the highest", x.switchesOf(1), 0x8000);
        x.wire(14, 2, 0);
        is("switchesOf(14), the lowest", x.switchesOf(14), 1);
        x.wire(2, 0, 1);
        x.wire(2, 1, 14);
        x.wire(2, 2, 2);
        is("switchesOf(2), behind gates, in a loop", x.switchesOf(2), 0x8001);
        x.wire(1, 1, 7);
        is("switchesOf(2), one more", x.switchesOf(2), 0x8081);
        is("switchesOf(15), of a switch", x.switchesOf(15), 0);
        x.cut(1, 0);
        is("switchesOf(2), one is cut", x.switchesOf(2), 0x81);
    }

    private void switchesOfNone() {
        says("Promise 18", "NONE if there is no such lantern.");
        LanternLogic x = row(1, 1);
        for (int far : FAR) {
            is("switchesOf(" + far + ")", x.switchesOf(far), NONE);
        }
        is("switchesOf(2)", x.switchesOf(2), NONE);
        is("switchesOf(1)", x.switchesOf(1), 1);
        is("switchesOf(16)", row(15, 1).switchesOf(16), NONE);
        is("switchesOf(15)", row(15, 1).switchesOf(15), 1);
    }

    private void areTables(String what, LanternLogic x, int gate, int want) {
        is("table(" + gate + ") " + what, x.table(gate), want);
        is("tableAgain(" + gate + ") " + what, x.tableAgain(gate), want);
    }

    private void rowsByNumbers() {
        says("Tables", "has a row for each way in which these can be set: in the row r, the k-th of them by numbers glows"
            + " if the bit k of r is 1.");
        int[] tables = {0xAAAA, 0xCCCC, 0xF0F0, 0xFF00};
        for (int k = 0; k < 4; k++) {
            LanternLogic x = glowsBy(k);
            is("switchesOf(9)", x.switchesOf(9), 0x8052);
            areTables("which glows by the number " + k + " of four", x, 9, tables[k]);
        }
    }

    /** The switches 1, 4, 6 and 15 lead to gate 9, and all but one of them by unlikes that see them twice. */
    private static LanternLogic glowsBy(int seen) {
        LanternLogic x = new LanternLogic();
        int[] switches = {1, 4, 6, 15};
        int[] unlikes = {0, 14, 2};
        String kinds = "4043030334333340";
        for (int k = 0; k < 16; k++) {
            x.hang(kinds.charAt(k) - '0', 1 + k % 4);
        }
        int place = 0;
        for (int k = 0; k < 4; k++) {
            if (k != seen) {
                x.wire(unlikes[place], 0, switches[k]);
                x.wire(unlikes[place], 1, switches[k]);
                x.wire(5, place, unlikes[place]);
                place++;
            }
        }
        x.wire(9, 0, switches[seen]);
        x.wire(9, 1, 5);
        return x;
    }

    private void rowsWhenSettled() {
        says("Tables", "A row tells whether the gate glows when all is settled with them so.");
        LanternLogic x = Help.hung("01 64 41 64 41");
        x.wire(1, 0, 0);
        x.wire(2, 0, 0);
        x.wire(2, 1, 1);
        x.wire(3, 0, 2);
        x.wire(4, 0, 3);
        x.wire(4, 1, 0);
        areTables("which flickers, but is dark in the end", x, 2, 0);
        areTables("behind it", x, 3, 0);
        areTables("which glows late", x, 4, 0b10);
        x.set(0, true);
        x.tick(2);
        areTables("which flickers now", x, 2, 0);
        areTables("behind it", x, 3, 0);
        LanternLogic beside = Help.hung("01 64 11 13");
        beside.wire(1, 0, 0);
        beside.wire(2, 0, 2);
        beside.wire(3, 0, 1);
        areTables("with a lantern beside it that is never settled", beside, 3, 0b01);
    }

    private void atMostFourSwitches() {
        says("Tables", "The table of a gate that has a depth, and to which at most 4 switches lead,");
        LanternLogic x = Help.hung("01 01 01 01 01 31 31 31");
        for (int place = 0; place < 3; place++) {
            x.wire(5, place, place);
        }
        x.wire(6, 0, 5);
        areTables("with 3 switches", x, 6, 0xFE);
        x.wire(6, 1, 3);
        areTables("with 4 switches", x, 6, 0xFFFE);
        x.wire(6, 2, 4);
        areTables("with 5 switches", x, 6, NOTHING);
        x.wire(7, 0, 6);
        areTables("with 5 switches behind a gate", x, 7, NOTHING);
        x.cut(5, 1);
        areTables("with 4 of 5 switches", x, 6, 0xFFFE);
        areTables("with 4 of 5 switches behind a gate", x, 7, 0xFFFE);
        x.wire(7, 1, 7);
        areTables("in a loop", x, 7, NOTHING);
        areTables("ahead of a loop", x, 6, 0xFFFE);
        x.wire(5, 1, 7);
        areTables("behind a loop", x, 5, NOTHING);
    }

    private void table() {
        LanternLogic bare = Help.hung("11 14 61");
        bare.wire(0, 0, 1);
        LanternLogic full = new LanternLogic();
        for (int k = 0; k < 4; k++) {
            full.hang(0, 1);
        }
        full.hang(3, 2);
        full.hang(1, 4);
        full.hang(3, 1);
        full.hang(3, 1);
        for (int k = 0; k < 3; k++) {
            full.wire(4, k, k);
        }
        full.wire(7, 0, 4);
        full.wire(7, 1, 3);
        full.wire(5, 0, 7);
        full.wire(6, 0, 7);
        full.wire(6, 2, 5);
        LanternLogic deep = row(15, 4);
        says("Promise 19", "Returns the table of a gate: by what each lantern finds, as soon as those of its wires are"
            + " known.", "`lantern`: the gate", "Returns the table, bit r for the row r;");
        is("table(0) of no switch", bare.table(0), 1);
        is("table(6) of 4 switches, always", full.table(6), 0xFFFF);
        is("table(5) of 4 switches, in the row 0 alone", full.table(5), 1);
        is("table(15) of a gate that is 60 deep", deep.table(15), 0b10);

        says("Promise 20", "`lantern`: the gate", "Returns the table, bit r for the row r;");
        is("tableAgain(0) of no switch", bare.tableAgain(0), 1);
        is("tableAgain(6) of 4 switches, always", full.tableAgain(6), 0xFFFF);
        is("tableAgain(5) of 4 switches, in the row 0 alone", full.tableAgain(5), 1);
        is("tableAgain(15) of a gate that is 60 deep", deep.tableAgain(15), 0b10);
    }

    private void tableCodes() {
        LanternLogic x = Help.hung("01 31 31");
        x.wire(1, 0, 1);
        x.wire(2, 0, 0);
        says("Promise 19", "NONE if there is no such lantern;");
        for (int far : FAR) {
            is("table(" + far + ")", x.table(far), NONE);
        }
        is("table(3)", x.table(3), NONE);
        is("table(2)", x.table(2), 0b10);
        is("table(16)", row(15, 1).table(16), NONE);

        says("Promise 19", "NOTHING if it has no table.");
        is("table(0) of a switch", x.table(0), NOTHING);
        is("table(1) in a loop", x.table(1), NOTHING);

        says("Promise 20", "NONE if there is no such lantern;");
        for (int far : FAR) {
            is("tableAgain(" + far + ")", x.tableAgain(far), NONE);
        }
        is("tableAgain(3)", x.tableAgain(3), NONE);
        is("tableAgain(2)", x.tableAgain(2), 0b10);
        is("tableAgain(16)", row(15, 1).tableAgain(16), NONE);

        says("Promise 20", "NOTHING if it has no table.");
        is("tableAgain(0) of a switch", x.tableAgain(0), NOTHING);
        is("tableAgain(1) in a loop", x.tableAgain(1), NOTHING);
    }

    private void tableInThought() {
        says("Promise 20", "Returns the same by a second way: by setting the switches, and letting ticks go by in"
            + " thought.");
        LanternLogic x = Help.hung("01 01 64 53 11");
        x.wire(2, 0, 0);
        x.wire(3, 0, 2);
        x.wire(3, 1, 1);
        x.wire(3, 2, 0);
        x.wire(4, 0, 4);
        x.set(1, true);
        x.tick(1);
        x.set(0, true);
        x.tick(2);
        String before = whole(x);
        is("tableAgain(3) while ticks are under way", x.tableAgain(3), 0b1010);
        is("tableAgain(2) while ticks are under way", x.tableAgain(2), 0b10);
        is("table(3)", x.table(3), 0b1010);
        isText("nothing is different", whole(x), before);
    }
}
