/** Sentences of promises 26 to 33: reasons, accounts, undo and the snapshot. */
final class AccountEdges extends Edges {
    AccountEdges(Due due, Sentences sentences) {
        super(due, sentences);
    }

    @Override
    void all() {
        reason();
        reasonNothing();
        accountOfTicks();
        accountOfLanterns();
        accountOfGlow();
        accountOfLoops();
        accountOfChanges();
        accountOfDepth();
        accountOfText();
        accountOfUndo();
        accountBad();
        isBalanced();
        meanWick();
        glowShare();
        undo();
        undoReturns();
        undoNothing();
        save();
        restore();
        restoreForgets();
        restoreReturns();
    }

    private void reason() {
        says("Promise 26", "Returns the latest reason, one that stands behind it, or a detail.",
            "`depth`: 0 for the reason, 1 for the one behind it, and so on",
            "`isDetail`: true for the detail, false for the reason", "Returns the number;");
        LanternLogic x = Help.hung("01 31 31");
        x.loops(false);
        x.wire(1, 0, 2);
        Help.run(x, "tick 1;wire 2.1<1");
        int[][] reasons = {{10, 1}, {8, 1}, {11, 2}};
        for (int depth = 0; depth < 3; depth++) {
            is("reason(" + depth + ", false)", x.reason(depth, false), reasons[depth][0]);
            is("reason(" + depth + ", true)", x.reason(depth, true), reasons[depth][1]);
        }
        isRefused("wire(2, 0, 2), the latest of two behind each other", x, x.wire(2, 0, 2), "8:2 11:1");
        isRefused("set(0, false), the latest alone", x, x.set(0, false), "7:0");
        isRefused("run(), with another one behind it", x, Help.run(x, "tick 0"), "10:0 13:-12");
        isRefused("cut(0, 2)", x, x.cut(0, 2), "2:0");
        x.tick(0);
        x.wire(9, 9, 9);
        Help.run(x, "tack");
        isText("reasons, which codes leave", Help.reasons(x), "2:0");
        x.set(0, true);
        isText("reasons, which changes leave", Help.reasons(x), "2:0");
    }

    private void reasonNothing() {
        says("Promise 26", "NOTHING if nothing was refused, or there is none at this depth.");
        LanternLogic x = Help.hung("01 31");
        x.hang(7, 1);
        x.tick(100);
        areNoReasons("nothing was refused", x, 0);
        areNoReasons("nothing was refused", x, 1);
        x.set(0, false);
        areNoReasons("one reason", x, 1);
        x.loops(false);
        x.wire(1, 0, 1);
        areNoReasons("two reasons", x, 2);
        Help.run(x, "wire 1.0<1");
        areNoReasons("three reasons", x, 3);
        areNoReasons("three reasons", x, 4);
        is("reason(2, true)", x.reason(2, true), 1);
        for (int far : FAR) {
            areNoReasons("three reasons", x, far);
        }
    }

    private void areNoReasons(String what, LanternLogic x, int depth) {
        is("reason(" + depth + ", false), " + what, x.reason(depth, false), NOTHING);
        is("reason(" + depth + ", true), " + what, x.reason(depth, true), NOTHING);
    }

    private void accountOfTicks() {
        says("Promise 27", "Returns an account.", "`what`: 0 for the ticks so far,", "Returns the account;");
        LanternLogic x = new LanternLogic();
        is("account(0)", x.account(0), 0);
        for (int i = 1; i <= 100; i++) {
            x.tick(99);
            is("account(0)", x.account(0), 99 * i);
        }
        x.settlesIn();
        x.period();
        x.tick(0);
        x.tick(100);
        is("account(0), ticks in thought and codes do not count", x.account(0), 9900);
        Help.run(x, "tick 99;tick 01;tick 9");
        is("account(0), with ticks of a text", x.account(0), 10009);
        Help.run(x, "tick 99;tick 0");
        is("account(0), with a text that is refused", x.account(0), 10009);
        x.undo();
        is("account(0), undone", x.account(0), 9900);
    }

    private void accountOfLanterns() {
        says("Promise 27", "1 for the lanterns, 2 for the switches, 3 for the wires,");
        LanternLogic x = new LanternLogic();
        for (int k = 0; k <= 16; k++) {
            is("account(1)", x.account(1), k);
            is("account(2)", x.account(2), (k + 1) / 2);
            x.hang(k % 2 * 3, 1);
        }
        is("account(1), the most", x.account(1), 16);
        is("account(2) of 16 switches", sixteen(0).account(2), 16);
        is("account(2) of 16 gates", sixteen(6).account(2), 0);
        LanternLogic y = sixteen(2);
        for (int wires = 0; wires < 48; wires++) {
            is("account(3)", y.account(3), wires);
            y.wire(wires / 3, wires % 3, 15);
        }
        is("account(3), the most", y.account(3), 48);
        y.cut(15, 2);
        is("account(3)", y.account(3), 47);
    }

    private void accountOfGlow() {
        says("Promise 27", "4 for the lanterns that glow,");
        LanternLogic x = Help.hung("01 61 11");
        x.wire(1, 0, 0);
        x.wire(2, 0, 0);
        is("account(4), none", x.account(4), 0);
        x.set(0, true);
        is("account(4), a switch at once", x.account(4), 1);
        x.tick(1);
        is("account(4), with a gate", x.account(4), 2);
        LanternLogic y = sixteen(1);
        for (int k = 0; k < 16; k++) {
            y.wire(k, 0, k);
        }
        y.tick(1);
        is("account(4), all", y.account(4), 16);
        y.tick(1);
        is("account(4), none", y.account(4), 0);
    }

    private void accountOfLoops() {
        says("Promise 27", "5 for those in loops, 6 for 1 if loops are allowed, and 0 otherwise,");
        LanternLogic x = sixteen(3);
        is("account(5), none", x.account(5), 0);
        is("account(6) at first", x.account(6), 1);
        x.loops(false);
        is("account(6)", x.account(6), 0);
        x.loops(true);
        is("account(6)", x.account(6), 1);
        for (int k = 0; k < 16; k++) {
            x.wire(k, 0, k);
            is("account(5)", x.account(5), k + 1);
            is("loops(false)", x.loops(false), REFUSED);
            is("account(6), refused", x.account(6), 1);
        }
        x.cut(7, 0);
        is("account(5)", x.account(5), 15);
    }

    private void accountOfChanges() {
        says("Promise 27", "7 for how often lanterns changed so far, by ticks and by being set,"
            + " 8 for how often by ticks alone, 9 for how often switches were set so far,");
        LanternLogic x = Help.hung("01 61 11");
        x.wire(1, 0, 0);
        x.wire(2, 0, 2);
        areChanges(x, 0, 0);
        x.set(0, true);
        areChanges(x, 0, 1);
        x.tick(1);
        areChanges(x, 2, 1);
        x.set(0, true);
        x.set(1, false);
        areChanges(x, 2, 1);
        x.tick(10);
        areChanges(x, 12, 1);
        x.set(0, false);
        areChanges(x, 12, 2);
        x.tick(99);
        areChanges(x, 112, 2);
        Help.run(x, "set 0+;tick 2;set 0-;tick 2");
        areChanges(x, 112 + 2 + 4, 4);
        Help.run(x, "set 0+;tick 2;set 0+");
        areChanges(x, 118, 4);
        x.undo();
        areChanges(x, 112, 2);
        x.undo();
        x.undo();
        areChanges(x, 12, 1);
    }

    private void areChanges(LanternLogic x, int byTicks, int bySetting) {
        is("account(7)", x.account(7), byTicks + bySetting);
        is("account(8)", x.account(8), byTicks);
        is("account(9)", x.account(9), bySetting);
    }

    private void accountOfDepth() {
        says("Promise 27", "10 for the greatest depth of those that have one, 0 without any,");
        is("account(10) without lanterns", new LanternLogic().account(10), 0);
        is("account(10) of switches", Help.hung("04 04").account(10), 0);
        is("account(10) of a gate", Help.hung("04 61").account(10), 1);
        LanternLogic x = Help.hung("34 34 34 34 34 34 34 34 34 34 34 34 34 34 34 34");
        is("account(10) without wires", x.account(10), 4);
        for (int k = 15; k > 0; k--) {
            x.wire(k - 1, k % 3, k);
            is("account(10)", x.account(10), 4 * (17 - k));
        }
        x.wire(8, 2, 8);
        is("account(10) ahead of a loop", x.account(10), 28);
        x.wire(15, 0, 0);
        is("account(10) of a ring", x.account(10), 0);
        LanternLogic loop = Help.hung("01 31");
        loop.wire(1, 0, 1);
        is("account(10) of a switch and a loop", loop.account(10), 0);
    }

    private void accountOfText() {
        says("Promise 27", "11 for the characters of the text,");
        LanternLogic x = new LanternLogic();
        for (int i = 0; i < 60; i++) {
            is("account(11)", x.account(11), i);
            x.append('t');
        }
        is("account(11), the most", x.account(11), 60);
        x.append('t');
        is("account(11), no more", x.account(11), 60);
        x.run();
        is("account(11), emptied", x.account(11), 0);
    }

    private void accountOfUndo() {
        says("Promise 27", "12 for the changes that can be undone");
        LanternLogic x = new LanternLogic();
        for (int i = 0; i <= 20; i++) {
            is("account(12)", x.account(12), Math.min(i, 8));
            x.tick(1);
        }
        for (int i = 7; i >= 0; i--) {
            x.undo();
            is("account(12)", x.account(12), i);
        }
        x.undo();
        is("account(12), none is left", x.account(12), 0);
    }

    private void accountBad() {
        says("Promise 27", "BAD if what is not from 0 to 12.");
        LanternLogic x = Help.hung("01 61");
        for (int far : FAR) {
            is("account(" + far + ")", x.account(far), BAD);
        }
        is("account(13)", x.account(13), BAD);
        is("account(12)", x.account(12), 2);
        is("account(0)", x.account(0), 0);
    }

    private void isBalanced() {
        says("Promise 28", "Returns whether each lantern that changed an odd number of times glows, and each other one is"
            + " dark, and the changes of all are those by ticks and by being set.", "Returns 1 if it is so, 0 otherwise.");
        is("isBalanced() without lanterns", new LanternLogic().isBalanced(), 1);
        LanternLogic x = LongRuns.rings(5, 6);
        int last = x.hang(0, 1);
        x.save();
        for (int i = 1; i < 13; i++) {
            x.tick(i);
            x.set(last, i % 2 == 1);
            Help.run(x, i % 3 == 0 ? "tick 3;tick 0" : "tick 5");
            if (i % 4 == 0) {
                x.undo();
            }
            if (i % 9 == 0) {
                x.restore();
            }
            is("isBalanced()", x.isBalanced(), 1);
            int changes = 0;
            for (int k = 0; k <= last; k++) {
                is("lanternOf(k, 2) by lanternOf(k, 5)", x.lanternOf(k, 2), x.lanternOf(k, 5) % 2);
                changes += x.lanternOf(k, 5);
            }
            is("account(7)", x.account(7), changes);
            is("account(8) and account(9)", x.account(8) + x.account(9), changes);
        }
    }

    private void meanWick() {
        says("Promise 29", "Returns the mean wick of the gates: the sum divided by their number, both converted to"
            + " double.", "Returns the mean;");
        isShare("meanWick(), the lowest", sixteen(1).meanWick(), 1.0);
        isShare("meanWick(), the highest", Help.hung("24 64 01").meanWick(), 4.0);
        isShare("meanWick(), no whole number", Help.hung("21 62").meanWick(), 1.5);
        isShare("meanWick() of three", Help.hung("21 62 32").meanWick(), 5.0 / 3.0);
        isShare("meanWick() of seven", Help.hung("21 62 32 44 01 53 14 11").meanWick(), 17.0 / 7.0);

        says("Promise 29", "0.0 without gates.");
        isShare("meanWick() without lanterns", new LanternLogic().meanWick(), 0.0);
        isShare("meanWick() of switches", Help.hung("04 03").meanWick(), 0.0);
    }

    private void glowShare() {
        says("Promise 30", "Returns the share of the lanterns that glow, both numbers converted to float.",
            "Returns the share;");
        for (int count = 1; count <= 16; count++) {
            LanternLogic x = new LanternLogic();
            for (int k = 0; k < count; k++) {
                x.hang(0, 1);
            }
            for (int k = 0; k <= count; k++) {
                isShare("glowShare() of " + k + " in " + count, x.glowShare(), (float) k / (float) count);
                x.set(k, true);
            }
        }

        says("Promise 30", "0.0f without lanterns.");
        LanternLogic y = new LanternLogic();
        isShare("glowShare()", y.glowShare(), 0.0f);
        y.hang(0, 1);
        y.undo();
        isShare("glowShare()", y.glowShare(), 0.0f);
    }

    private void undo() {
        says("Promise 31", "Undoes the latest change.");
        for (int kind = 0; kind < 12; kind++) {
            LanternLogic x = Help.hung("01 14 61");
            x.wire(1, 0, 0);
            x.tick(2);
            for (int earlier = 0; earlier < kind; earlier++) {
                change(x, earlier);
            }
            String before = Help.state(x);
            isTrue("the change " + kind + " is one", change(x, kind) >= 0);
            x.undo();
            isText("state behind the change " + kind + " and undo", Help.state(x), before);
        }
    }

    private static int change(LanternLogic x, int kind) {
        switch (kind) {
            case 0: return x.hang(3, 2);
            case 1: return x.wire(2, 0, 1);
            case 2: return x.set(0, true);
            case 3: return x.tick(1);
            case 4: return x.tick(99);
            case 5: return x.cut(2, 0);
            case 6: return x.loops(true);
            case 7: return x.loops(false);
            case 8: return x.loops(false);
            case 9: return x.loops(true);
            case 10: return Help.run(x, "set 0-;tick 2;wire 2.0<2;hang 0*1");
            default: return x.set(0, true);
        }
    }

    private void undoReturns() {
        says("Promise 31", "Returns the number of changes that can still be undone;");
        // As many changes as the places in which they are kept, and some more, over and over.
        for (int changes = 1; changes <= 30; changes++) {
            LanternLogic x = new LanternLogic();
            for (int i = 0; i < changes; i++) {
                x.tick(1);
            }
            int kept = Math.min(changes, 8);
            for (int i = 1; i <= kept; i++) {
                is("undo() behind " + changes, x.undo(), kept - i);
                is("account(0)", x.account(0), changes - i);
            }
            is("undo() once more", x.undo(), NOTHING);
            is("account(0)", x.account(0), changes - kept);
            x.tick(9);
            is("undo() of a new one", x.undo(), 0);
            is("account(0)", x.account(0), changes - kept);
        }
    }

    private void undoNothing() {
        says("Promise 31", "NOTHING if there is none.");
        LanternLogic x = new LanternLogic();
        is("undo() at first", x.undo(), NOTHING);
        x.hang(0, 5);
        x.set(0, true);
        x.tick(0);
        Help.run(x, "tick 0");
        Help.run(x, "");
        x.append('t');
        x.save();
        is("undo() behind calls that are no changes", x.undo(), NOTHING);
        x.hang(0, 1);
        is("undo()", x.undo(), 0);
        String before = whole(x);
        is("undo() once more", x.undo(), NOTHING);
        isText("all of it is as before", whole(x), before);
    }

    /** Lanterns in which all that changes can change is other than at first. */
    private static LanternLogic changed() {
        LanternLogic x = Help.hung("03 14 61 44 02");
        x.wire(1, 0, 0);
        x.wire(2, 0, 1);
        x.wire(3, 1, 2);
        x.set(0, true);
        x.set(4, true);
        x.tick(1);
        x.set(0, false);
        x.tick(2);
        x.loops(false);
        return x;
    }

    private void save() {
        says("Promise 32", "Saves all that changes can change, in place of an earlier snapshot.");
        LanternLogic x = changed();
        x.save();
        String saved = Help.state(x);
        is("account(12), it is no change", x.account(12), 8);
        x.loops(true);
        x.cut(1, 0);
        x.wire(1, 0, 1);
        x.tick(60);
        x.hang(5, 2);
        x.set(4, false);
        String later = Help.state(x);
        x.restore();
        isText("state", Help.state(x), saved);
        x.loops(true);
        x.cut(1, 0);
        x.wire(1, 0, 1);
        x.tick(60);
        x.hang(5, 2);
        x.set(4, false);
        x.save();
        x.tick(1);
        x.restore();
        isText("state, of the later snapshot", Help.state(x), later);

        says("Promise 32", "Returns the number of lanterns.");
        LanternLogic y = new LanternLogic();
        for (int k = 0; k < 16; k++) {
            is("save()", y.save(), k);
            y.hang(k % 7, 1);
        }
        is("save(), the most", y.save(), 16);
    }

    private void restore() {
        says("Promise 33", "Restores the snapshot, which stays.");
        LanternLogic x = changed();
        String saved = Help.state(x);
        x.save();
        for (int i = 0; i < 4; i++) {
            x.tick(1 + 7 * i);
            change(x, i % 2 == 0 ? 0 : 9);
            x.restore();
            isText("state", Help.state(x), saved);
        }
        LanternLogic twin = changed();
        x.restore();
        for (int t = 0; t < 12; t++) {
            is("tick(1) as without the snapshot", x.tick(1), twin.tick(1));
        }
        LanternLogic y = Help.hung("01 54 12");
        saved = Help.state(y);
        y.save();
        y.undo();
        y.undo();
        y.undo();
        y.hang(6, 3);
        y.wire(0, 0, 0);
        y.restore();
        isText("state, over other lanterns of the same numbers", Help.state(y), saved);
    }

    private void restoreForgets() {
        says("Promise 33", "Nothing can be undone then.");
        LanternLogic x = changed();
        x.save();
        is("account(12)", x.account(12), 8);
        x.restore();
        is("account(12)", x.account(12), 0);
        String before = whole(x);
        is("undo()", x.undo(), NOTHING);
        isText("all of it is as before", whole(x), before);
        x.tick(1);
        is("undo() of a change behind it", x.undo(), 0);
        isText("all of it is as before", whole(x), before);
        is("undo() once more", x.undo(), NOTHING);
    }

    private void restoreReturns() {
        says("Promise 33", "Returns the number of lanterns;");
        for (int count = 0; count <= 16; count++) {
            LanternLogic x = new LanternLogic();
            for (int k = 0; k < count; k++) {
                x.hang(k % 7, 1);
            }
            x.save();
            x.undo();
            x.hang(3, 1);
            x.hang(3, 1);
            is("restore()", x.restore(), count);
            is("account(1)", x.account(1), count);
        }

        says("Promise 33", "NOTHING if there is no snapshot.");
        LanternLogic y = Help.hung("01 61");
        String before = whole(y);
        is("restore()", y.restore(), NOTHING);
        isText("all of it is as before", whole(y), before);
        is("undo()", y.undo(), 1);
    }
}
