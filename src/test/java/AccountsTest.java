/** Promises 26 to 33: reasons, accounts, undo and the snapshot. */
public final class AccountsTest {
    private static final Due due = new Due();

    public static void main(String[] args) {
        reason();
        account();
        accountOfSets();
        isBalanced();
        meanWick();
        glowShare();
        undo();
        undoLeaves();
        save();
        restore();
        restoreForgets();
        due.end("AccountsTest");
    }

    private static void reason() {
        due.part("promise 26");
        LanternLogic x = Help.hung("01 31 31");
        due.is("reason(0, false)", x.reason(0, false), Help.NOTHING);
        due.is("reason(0, true)", x.reason(0, true), Help.NOTHING);
        x.hang(9, 9);
        x.wire(9, 0, 0);
        due.is("reason(0, false), a code is no reason", x.reason(0, false), Help.NOTHING);
        x.loops(false);
        x.wire(1, 0, 2);
        Help.run(x, "tick 1;wire 2.1<1");
        int[][] want = {{10, 1}, {8, 1}, {11, 2}};
        for (int depth = 0; depth < 3; depth++) {
            due.is("reason(" + depth + ", false)", x.reason(depth, false), want[depth][0]);
            due.is("reason(" + depth + ", true)", x.reason(depth, true), want[depth][1]);
        }
        due.is("reason(3, false)", x.reason(3, false), Help.NOTHING);
        due.is("reason(3, true)", x.reason(3, true), Help.NOTHING);
        for (int far : Help.FAR) {
            due.is("reason(far, false)", x.reason(far, false), Help.NOTHING);
            due.is("reason(far, true)", x.reason(far, true), Help.NOTHING);
        }
        x.set(0, false);
        due.isText("the latest alone", Help.reasons(x), "7:0");
        x.set(0, true);
        x.undo();
        x.save();
        x.restore();
        x.tick(0);
        due.isText("they stay", Help.reasons(x), "7:0");
    }

    private static void account() {
        due.part("promise 27");
        LanternLogic x = Help.hung("01 12 64 31 01 33");
        x.wire(1, 0, 0);
        x.wire(2, 0, 1);
        x.wire(3, 0, 2);
        x.wire(3, 1, 3);
        x.wire(5, 0, 4);
        x.wire(5, 2, 0);
        x.set(4, true);
        x.tick(9);
        x.append(65);
        int[] want = {9, 6, 2, 6, 5, 1, 1, 5, 4, 1, 6, 1, 8};
        for (int what = 0; what <= 12; what++) {
            due.is("account(" + what + ")", x.account(what), want[what]);
        }
        x.cut(3, 1);
        x.loops(false);
        due.is("account(3)", x.account(3), 5);
        due.is("account(5)", x.account(5), 0);
        due.is("account(6)", x.account(6), 0);
        due.is("account(10)", x.account(10), 7);
        due.is("account(13)", x.account(13), Help.BAD);
        for (int far : Help.FAR) {
            due.is("account(far)", x.account(far), Help.BAD);
        }
        due.is("account(10) of switches", Help.hung("04").account(10), 0);
    }

    private static void accountOfSets() {
        due.part("promise 27, by ticks and by being set");
        LanternLogic x = Help.hung("01 61 01");
        x.wire(1, 0, 0);
        for (int i = 0; i < 5; i++) {
            x.set(0, i % 2 == 0);
            x.tick(2);
        }
        x.set(2, true);
        x.set(2, true);
        x.set(1, true);
        due.is("account(0)", x.account(0), 10);
        due.is("account(7)", x.account(7), 11);
        due.is("account(8)", x.account(8), 5);
        due.is("account(9)", x.account(9), 6);
        due.is("lanternOf(0, 5)", x.lanternOf(0, 5), 5);
        due.is("lanternOf(1, 5)", x.lanternOf(1, 5), 5);
        due.is("lanternOf(2, 5)", x.lanternOf(2, 5), 1);
    }

    private static void isBalanced() {
        due.part("promise 28");
        LanternLogic x = new LanternLogic();
        due.is("isBalanced()", x.isBalanced(), 1);
        x = LongRuns.rings(5, 6);
        x.hang(0, 1);
        int last = x.account(1) - 1;
        for (int i = 1; i < 15; i++) {
            x.tick(i);
            due.is("isBalanced()", x.isBalanced(), 1);
            x.set(last, i % 2 == 1);
            due.is("isBalanced()", x.isBalanced(), 1);
            if (i % 5 == 0) {
                x.undo();
                due.is("isBalanced()", x.isBalanced(), 1);
            }
            if (i % 7 == 0) {
                x.save();
            }
            if (i % 11 == 0) {
                x.restore();
                due.is("isBalanced()", x.isBalanced(), 1);
            }
            Help.run(x, "tick 2;tick 3" + (i % 2 == 0 ? ";tick 0" : ""));
            due.is("isBalanced()", x.isBalanced(), 1);
        }
    }

    private static void meanWick() {
        due.part("promise 29");
        due.isShare("meanWick()", new LanternLogic().meanWick(), 0.0);
        due.isShare("meanWick()", Help.hung("04 03").meanWick(), 0.0);
        due.isShare("meanWick()", Help.hung("04 13").meanWick(), 3.0);
        due.isShare("meanWick()", Help.hung("04 13 24 03 34").meanWick(), 11.0 / 3.0);
        due.isShare("meanWick()", Help.hung("11 12 21 51 62 64 31").meanWick(), 12.0 / 7.0);
    }

    private static void glowShare() {
        due.part("promise 30");
        LanternLogic x = new LanternLogic();
        due.isShare("glowShare()", x.glowShare(), 0.0f);
        x.hang(0, 1);
        due.isShare("glowShare()", x.glowShare(), 0.0f);
        x.set(0, true);
        due.isShare("glowShare()", x.glowShare(), 1.0f);
        x.hang(6, 1);
        x.hang(0, 1);
        due.isShare("glowShare()", x.glowShare(), 1.0f / 3.0f);
        x.wire(1, 0, 0);
        x.tick(1);
        due.isShare("glowShare()", x.glowShare(), 2.0f / 3.0f);
        x.hang(0, 1);
        x.hang(0, 1);
        x.hang(0, 1);
        x.hang(0, 1);
        due.isShare("glowShare()", x.glowShare(), 2.0f / 7.0f);
    }

    private static void undo() {
        due.part("promise 31");
        LanternLogic x = new LanternLogic();
        due.is("undo()", x.undo(), Help.NOTHING);
        String[] accounts = new String[13];
        for (int i = 0; i <= 12; i++) {
            accounts[i] = Help.accounts(x);
            due.is("account(12)", x.account(12), Math.min(i, 8));
            x.hang(i % 7, i % 4 + 1);
        }
        for (int i = 12; i >= 5; i--) {
            due.is("undo()", x.undo(), i - 5);
            due.isText("accounts", Help.accounts(x), accounts[i]);
        }
        due.is("undo()", x.undo(), Help.NOTHING);
        due.isText("accounts", Help.accounts(x), accounts[5]);
        x.hang(0, 1);
        x.hang(0, 1);
        due.is("undo()", x.undo(), 1);
        x.tick(3);
        due.is("account(12)", x.account(12), 2);
        due.is("undo()", x.undo(), 1);
        due.is("undo()", x.undo(), 0);
        due.isText("accounts", Help.accounts(x), accounts[5]);
    }

    private static void undoLeaves() {
        due.part("promise 31, what is neither undone nor saved");
        LanternLogic x = Help.hung("01 11");
        x.save();
        x.set(0, true);
        x.set(0, true);
        x.append(65);
        x.append(66);
        x.tell();
        due.is("undo()", x.undo(), 2);
        due.is("account(11)", x.account(11), 2);
        due.isText("the line", Help.line(x, 2), "#.");
        due.isText("reasons", Help.reasons(x), "7:0");
        x.set(0, true);
        due.is("restore()", x.restore(), 2);
        due.is("account(11)", x.account(11), 2);
        due.isText("the line", Help.line(x, 2), "#.");
        due.isText("reasons", Help.reasons(x), "7:0");
        LanternLogic y = new LanternLogic();
        Help.run(y, "tick 1");
        y.undo();
        due.is("account(11), run has emptied it", y.account(11), 0);
        y.set(9, true);
        y.leads(0);
        y.cut(0, 0);
        due.is("undo(), codes are no changes", y.undo(), Help.NOTHING);
    }

    private static void save() {
        due.part("promise 32");
        LanternLogic x = new LanternLogic();
        due.is("save()", x.save(), 0);
        x.hang(0, 1);
        x.hang(6, 3);
        due.is("restore() of an empty one", x.restore(), 0);
        due.is("account(1)", x.account(1), 0);
        x.hang(0, 1);
        x.hang(6, 3);
        due.is("save()", x.save(), 2);
        due.is("account(12), it is no change", x.account(12), 2);
        due.is("undo()", x.undo(), 1);
        due.is("restore(), in place of the earlier one", x.restore(), 2);
        due.is("account(1)", x.account(1), 2);
    }

    private static void restore() {
        due.part("promise 33");
        LanternLogic x = Help.hung("01 14 61 44");
        due.is("restore()", x.restore(), Help.NOTHING);
        due.is("account(12)", x.account(12), 4);
        x.wire(1, 0, 0);
        x.wire(2, 0, 1);
        x.set(0, true);
        x.tick(1);
        x.set(0, false);
        x.tick(1);
        x.loops(false);
        String saved = Help.state(x);
        x.save();
        x.tick(50);
        x.loops(true);
        x.cut(1, 0);
        x.wire(1, 0, 1);
        x.hang(5, 2);
        x.set(0, true);
        due.is("restore()", x.restore(), 4);
        due.isText("state", Help.state(x), saved);
        x.tick(7);
        x.hang(0, 1);
        due.is("restore(), it stays", x.restore(), 4);
        due.isText("state", Help.state(x), saved);
        due.is("tick(9) as it would have been", x.tick(9), 2);
        LanternLogic y = Help.hung("01 54 12");
        saved = Help.state(y);
        y.save();
        y.undo();
        y.undo();
        y.hang(0, 3);
        y.hang(3, 1);
        due.is("restore() over other lanterns of the same numbers", y.restore(), 3);
        due.isText("state", Help.state(y), saved);
    }

    private static void restoreForgets() {
        due.part("promise 33, nothing can be undone then");
        LanternLogic x = Help.hung("01 01 01 01 01 01 01 01 01 01");
        x.save();
        due.is("account(12)", x.account(12), 8);
        due.is("restore()", x.restore(), 10);
        due.is("account(12)", x.account(12), 0);
        due.is("undo()", x.undo(), Help.NOTHING);
        x.hang(1, 1);
        due.is("undo()", x.undo(), 0);
        due.is("account(1)", x.account(1), 10);
        due.is("undo()", x.undo(), Help.NOTHING);
    }
}
