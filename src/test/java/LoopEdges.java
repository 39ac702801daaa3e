/** Sentences on who leads to whom, on loops, and on how deep lanterns are: terms, and promises 10 to 13. */
final class LoopEdges extends Edges {
    LoopEdges(Due due, Sentences sentences) {
        super(due, sentences);
    }

    @Override
    void all() {
        leadsTo();
        isInALoop();
        allowedOrNot();
        switchDepth();
        gateDepth();
        noDepth();
        leads();
        leadsNone();
        looped();
        depth();
        depthNone();
        depthNothing();
    }

    /** Alikes, each of which sees the one ahead of it; with a wire back, a ring of all of them. */
    private static LanternLogic row(int count, boolean isRing) {
        LanternLogic x = new LanternLogic();
        for (int k = 0; k < count; k++) {
            x.hang(3, 1);
        }
        for (int k = 1; k < count; k++) {
            x.wire(k, 0, k - 1);
        }
        if (isRing) {
            x.wire(0, 0, count - 1);
        }
        return x;
    }

    private void leadsTo() {
        says("Loops", "A lantern leads to another one if a wire leads from it to the other one,"
            + " or to one that leads to the other one.");
        LanternLogic two = row(2, false);
        is("leads(0) by a wire", two.leads(0), 2);
        is("leads(1) against it", two.leads(1), 0);
        LanternLogic three = row(3, false);
        is("leads(0) by a wire and another one", three.leads(0), 6);
        LanternLogic all = row(16, false);
        for (int k = 0; k < 16; k++) {
            is("leads(" + k + ") in a row of 16", all.leads(k), 0xFFFF & ~((2 << k) - 1));
        }
        all.cut(8, 0);
        is("leads(0) up to where it is cut", all.leads(0), 0xFE);
        is("leads(8) from where it is cut", all.leads(8), 0xFE00);
    }

    private void isInALoop() {
        says("Loops", "A lantern that leads to itself is in a loop.");
        for (int count = 1; count <= 16; count++) {
            LanternLogic x = row(count, false);
            is("looped() of a row of " + count, x.looped(), 0);
            x.wire(0, 0, count - 1);
            is("looped() of a ring of " + count, x.looped(), (1 << count) - 1);
            is("account(5) of a ring of " + count, x.account(5), count);
            is("leads(0) in a ring of " + count, x.leads(0), (1 << count) - 1);
        }
        LanternLogic y = row(5, false);
        y.wire(1, 1, 3);
        is("looped() with one ahead of it and one behind it", y.looped(), 0b01110);
    }

    private void allowedOrNot() {
        says("Loops", "Loops are allowed, as at first, or not;");
        LanternLogic first = row(2, false);
        is("account(6) at first", first.account(6), 1);
        is("wire(0, 0, 1) at first", first.wire(0, 0, 1), 1);

        says("Loops", "if they are not, a wire that would close a loop is refused.");
        for (int count = 1; count <= 16; count++) {
            LanternLogic x = row(count, false);
            x.loops(false);
            int last = count - 1;
            isRefused("wire(0, 0, " + last + ")", x, x.wire(0, 0, last), "8:" + last + " 11:" + count);
            is("wire(" + last + ", 1, 0), the same way round", x.wire(last, 1, 0), count > 1 ? 2 : REFUSED);
            is("looped()", x.looped(), 0);
            x.loops(true);
            is("wire(0, 0, " + last + ") as soon as they are allowed", x.wire(0, 0, last), 1);
        }
    }

    private void areDeep(String what, LanternLogic x, int... depths) {
        for (int k = 0; k < depths.length; k++) {
            is("depth(" + k + ") " + what, x.depth(k), depths[k]);
            is("depthAgain(" + k + ") " + what, x.depthAgain(k), depths[k]);
        }
    }

    private void switchDepth() {
        says("How deep", "A switch is 0 deep.");
        areDeep("of switches", Help.hung("01 04"), 0, 0);
        LanternLogic x = Help.hung("04 61");
        x.wire(1, 0, 0);
        x.set(0, true);
        areDeep("of a switch with a wire from it", x, 0, 1);
    }

    private void gateDepth() {
        says("How deep", "A gate is as deep as its wick is more than the deepest of the lanterns of its wires,"
            + " or than 0 without any.");
        areDeep("without wires", Help.hung("11 22 33 44"), 1, 2, 3, 4);
        LanternLogic x = Help.hung("04 63 61 22 21 21");
        x.wire(1, 0, 0);
        x.wire(2, 0, 1);
        x.wire(3, 0, 0);
        x.wire(3, 1, 1);
        x.wire(3, 2, 2);
        x.wire(4, 0, 2);
        x.wire(4, 2, 0);
        x.wire(5, 1, 1);
        areDeep("by the deepest at any place", x, 0, 3, 4, 6, 5, 4);
        x.cut(3, 2);
        areDeep("by the deepest that is left", x, 0, 3, 4, 5, 5, 4);
        x.cut(4, 0);
        x.cut(4, 2);
        areDeep("without wires behind cuts", x, 0, 3, 4, 5, 1, 4);
        LanternLogic most = new LanternLogic();
        LanternLogic turned = new LanternLogic();
        for (int k = 0; k < 16; k++) {
            most.hang(3, 4);
            turned.hang(3, 4);
        }
        for (int k = 1; k < 16; k++) {
            most.wire(k, 2, k - 1);
            turned.wire(k - 1, 2, k);
        }
        is("depth(15), the greatest there can be", most.depth(15), 64);
        is("depthAgain(15), the greatest there can be", most.depthAgain(15), 64);
        is("depth(0), numbered the other way", turned.depth(0), 64);
        is("depthAgain(0), numbered the other way", turned.depthAgain(0), 64);
    }

    private void noDepth() {
        says("How deep", "A gate to which a lantern in a loop leads, or which is in one, has no depth.");
        LanternLogic x = Help.hung("01 31 31 31 31 31");
        x.wire(1, 0, 0);
        x.wire(2, 0, 1);
        x.wire(2, 1, 2);
        x.wire(3, 0, 2);
        x.wire(4, 0, 3);
        x.wire(4, 1, 0);
        areDeep("around a loop of 1", x, 0, 1, NOTHING, NOTHING, NOTHING, 1);
        x.cut(2, 1);
        areDeep("without the loop", x, 0, 1, 2, 3, 4, 1);
        x.wire(2, 1, 3);
        areDeep("around a loop of 2", x, 0, 1, NOTHING, NOTHING, NOTHING, 1);
        LanternLogic ring = row(16, true);
        for (int k = 0; k < 16; k++) {
            is("depth(" + k + ") in a ring of 16", ring.depth(k), NOTHING);
            is("depthAgain(" + k + ") in a ring of 16", ring.depthAgain(k), NOTHING);
        }
    }

    private void leads() {
        says("Promise 10", "Returns the lanterns to which a lantern leads.", "`lantern`: the lantern",
            "Returns the set, bit k for the lantern k;");
        LanternLogic x = Help.hung("01 61 01");
        is("leads(0) to none", x.leads(0), 0);
        x.wire(1, 0, 0);
        is("leads(0)", x.leads(0), 2);
        is("leads(2) to none", x.leads(2), 0);
        LanternLogic y = sixteen(3);
        y.wire(15, 0, 0);
        is("leads(0) to the highest", y.leads(0), 0x8000);
        y.wire(0, 0, 15);
        is("leads(0) to itself and the highest", y.leads(0), 0x8001);
        is("leads(15) to itself and the lowest", y.leads(15), 0x8001);
        is("leads(7) to none", y.leads(7), 0);
    }

    private void leadsNone() {
        says("Promise 10", "NONE if there is no such lantern.");
        LanternLogic x = row(2, true);
        for (int far : FAR) {
            is("leads(" + far + ")", x.leads(far), NONE);
        }
        is("leads(2)", x.leads(2), NONE);
        is("leads(1)", x.leads(1), 3);
        is("leads(16)", row(16, true).leads(16), NONE);
        is("leads(0) without lanterns", new LanternLogic().leads(0), NONE);
    }

    private void looped() {
        says("Promise 11", "Returns the lanterns that are in loops.", "Returns the set, bit k for the lantern k.");
        is("looped() without lanterns", new LanternLogic().looped(), 0);
        is("looped() of switches", sixteen(0).looped(), 0);
        LanternLogic x = sixteen(3);
        is("looped() without wires", x.looped(), 0);
        x.wire(15, 2, 15);
        is("looped() of the highest", x.looped(), 0x8000);
        x.wire(0, 0, 0);
        is("looped() of the highest and the lowest", x.looped(), 0x8001);
        x.wire(0, 1, 15);
        is("looped() with a way from one to the other", x.looped(), 0x8001);
        x.cut(0, 0);
        x.cut(15, 2);
        is("looped() with a way alone", x.looped(), 0);
        x.wire(15, 0, 0);
        is("looped() with a way back", x.looped(), 0x8001);
        is("looped() of a ring of 16", row(16, true).looped(), 0xFFFF);
    }

    private void depth() {
        says("Promise 12", "Returns how deep a lantern is: by those of its wires.", "`lantern`: the lantern",
            "Returns how deep;");
        LanternLogic x = Help.hung("64 64 62 01");
        x.wire(0, 0, 1);
        x.wire(1, 0, 2);
        x.wire(2, 0, 3);
        is("depth(0)", x.depth(0), 10);
        is("depth(3)", x.depth(3), 0);

        says("Promise 13", "Returns the same by a second way: in rounds, in each of which all lanterns are looked at"
            + " whose wires come from lanterns of which it is known.", "`lantern`: the lantern", "Returns how deep;");
        is("depthAgain(0)", x.depthAgain(0), 10);
        is("depthAgain(3)", x.depthAgain(3), 0);
        LanternLogic many = row(16, false);
        LanternLogic turned = sixteen(3);
        for (int k = 0; k < 15; k++) {
            for (int place = 0; place < 3; place++) {
                turned.wire(k, place, Math.min(15, k + 1 + place));
            }
        }
        for (int k = 0; k < 16; k++) {
            is("depthAgain(" + k + ") in a row of 16", many.depthAgain(k), k + 1);
            is("depthAgain(" + k + ") in a row numbered the other way", turned.depthAgain(k), 16 - k);
            is("depth(" + k + ") in a row numbered the other way", turned.depth(k), 16 - k);
        }
    }

    private void depthNone() {
        LanternLogic x = row(2, true);
        LanternLogic y = row(16, false);
        says("Promise 12", "NONE if there is no such lantern;");
        for (int far : FAR) {
            is("depth(" + far + ")", x.depth(far), NONE);
        }
        is("depth(2)", x.depth(2), NONE);
        is("depth(16)", y.depth(16), NONE);
        is("depth(0) without lanterns", new LanternLogic().depth(0), NONE);

        says("Promise 13", "NONE if there is no such lantern;");
        for (int far : FAR) {
            is("depthAgain(" + far + ")", x.depthAgain(far), NONE);
        }
        is("depthAgain(2)", x.depthAgain(2), NONE);
        is("depthAgain(16)", y.depthAgain(16), NONE);
        is("depthAgain(0) without lanterns", new LanternLogic().depthAgain(0), NONE);
    }

    private void depthNothing() {
        LanternLogic x = Help.hung("61 31 31 01 61");
        x.wire(0, 0, 1);
        x.wire(1, 0, 1);
        x.wire(1, 1, 3);
        x.wire(2, 0, 3);
        x.wire(1, 2, 2);
        int[] depths = {NOTHING, NOTHING, 1, 0, 1};
        says("Promise 12", "NOTHING if it has no depth.");
        for (int k = 0; k < 5; k++) {
            is("depth(" + k + ")", x.depth(k), depths[k]);
        }
        x.cut(1, 0);
        is("depth(0) without the loop", x.depth(0), 3);

        says("Promise 13", "NOTHING if it has no depth.");
        x.wire(1, 0, 1);
        for (int k = 0; k < 5; k++) {
            is("depthAgain(" + k + ")", x.depthAgain(k), depths[k]);
        }
        x.cut(1, 0);
        is("depthAgain(0) without the loop", x.depthAgain(0), 3);
    }
}
