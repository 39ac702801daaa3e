/** Sentences of the terms on lanterns, what gates find, and ticks. */
final class LanternEdges extends Edges {
    private static final String FINDS = "What a gate finds";
    private static final String[] WORDS = {"switch", "not", "and", "or", "unlike", "most", "alike"};

    LanternEdges(Due due, Sentences sentences) {
        super(due, sentences);
    }

    @Override
    void all() {
        numbers();
        atMostSixteen();
        numberedFromZero();
        ofAKind();
        withAWick();
        darkAtFirst();
        kinds();
        wiresLead();
        oneWireOrNone();
        gates();
        gatesWithoutWires();
        gatesWithWires();
        allByHowItWasAhead();
        switchesAtOnce();
        wicksDelay();
        darkAheadOfIt();
        settled();
    }

    private void numbers() {
        says("Numbers", "All numbers are whole, but two, and are rounded down if nothing else is said.");
        LanternLogic x = Help.hung("01 11 12");
        x.set(0, true);
        isShare("meanWick()", x.meanWick(), 1.5);
        isShare("glowShare()", x.glowShare(), 1.0f / 3.0f);
        isShare("glowShare() as a float", x.glowShare(), 0.3333333432674408);
    }

    private void atMostSixteen() {
        says("Lanterns", "At most 16 lanterns are hung up,");
        LanternLogic x = new LanternLogic();
        for (int k = 0; k < 16; k++) {
            is("hang(" + k % 7 + ", 1) as number " + k, x.hang(k % 7, 1), k);
        }
        is("hang(0, 1) as the 17th", x.hang(0, 1), REFUSED);
        is("account(1)", x.account(1), 16);
        is("lanternOf(15, 0)", x.lanternOf(15, 0), 1);
        is("lanternOf(16, 0)", x.lanternOf(16, 0), NONE);
        x.undo();
        is("hang(6, 4) with room for one", x.hang(6, 4), 15);
        is("hang(6, 4) with room for none", x.hang(6, 4), REFUSED);
    }

    private void numberedFromZero() {
        says("Lanterns", "numbered from 0,");
        LanternLogic x = new LanternLogic();
        is("lanternOf(0, 0) without lanterns", x.lanternOf(0, 0), NONE);
        is("hang(5, 1)", x.hang(5, 1), 0);
        is("lanternOf(0, 0)", x.lanternOf(0, 0), 5);
        is("lanternOf(-1, 0)", x.lanternOf(-1, 0), NONE);
        is("lanternOf(1, 0)", x.lanternOf(1, 0), NONE);
        is("hang(6, 1)", x.hang(6, 1), 1);
    }

    private void ofAKind() {
        says("Lanterns", "each of a kind,");
        for (int kind = 0; kind <= 6; kind++) {
            is("lanternOf(0, 0)", Help.hung(kind + "1").lanternOf(0, 0), kind);
        }
        LanternLogic x = new LanternLogic();
        is("hang(-1, 1)", x.hang(-1, 1), BAD);
        is("hang(7, 1)", x.hang(7, 1), BAD);
        is("account(1)", x.account(1), 0);
    }

    private void withAWick() {
        says("Lanterns", "and with a wick from 1 to 4.");
        for (int kind = 0; kind <= 6; kind++) {
            LanternLogic x = new LanternLogic();
            is("hang(" + kind + ", 0)", x.hang(kind, 0), BAD);
            is("hang(" + kind + ", 5)", x.hang(kind, 5), BAD);
            for (int wick = 1; wick <= 4; wick++) {
                is("hang(" + kind + ", " + wick + ")", x.hang(kind, wick), wick - 1);
                is("lanternOf(" + (wick - 1) + ", 1)", x.lanternOf(wick - 1, 1), wick);
            }
        }
    }

    private void darkAtFirst() {
        says("Lanterns", "A lantern glows or is dark, as at first.");
        LanternLogic late = Help.hung("01 11");
        late.wire(1, 0, 0);
        late.tick(9);
        for (int kind = 0; kind <= 6; kind++) {
            is("lanternOf(0, 2) of the kind " + kind, Help.hung(kind + "1").lanternOf(0, 2), 0);
            late.hang(kind, 1 + kind % 4);
        }
        isText("all, hung up while another one glows", Help.all(late), ".#.......");
        late.set(0, true);
        isText("all", Help.all(late), "##.......");
    }

    private void kinds() {
        String[] sentences = {"The kinds are: 0, a switch, which has no places for wires;", "1, not, with 1 place;",
            "2, and, with 3;", "3, or, with 3;", "4, unlike, with 2;", "5, most, with 3;", "and 6, alike, with 1."};
        int[] places = {0, 1, 3, 3, 2, 3, 1};
        for (int kind = 0; kind <= 6; kind++) {
            says("Lanterns", sentences[kind]);
            LanternLogic x = Help.hung(kind + "1 01");
            isTrue("the kind is told by its word", Help.one(x, 0).startsWith("0:" + WORDS[kind] + "1"));
            for (int place = 2; place >= 0; place--) {
                String call = "wire(0, " + place + ", 1)";
                if (kind == 0) {
                    isRefused(call, x, x.wire(0, place, 1), "2:0");
                } else if (place >= places[kind]) {
                    isRefused(call, x, x.wire(0, place, 1), "3:" + places[kind]);
                } else {
                    is(call, x.wire(0, place, 1), places[kind] - place);
                }
            }
            is("lanternOf(0, 3)", x.lanternOf(0, 3), places[kind]);
        }
    }

    private void wiresLead() {
        says("Lanterns", "A wire leads from a lantern to a place of another one, or of the same one;");
        LanternLogic x = Help.hung("21 01");
        is("wire(0, 0, 1) from another one", x.wire(0, 0, 1), 1);
        is("wire(0, 2, 0) from the same one", x.wire(0, 2, 0), 2);
        is("wireOf(0, 0)", x.wireOf(0, 0), 1);
        is("wireOf(0, 1)", x.wireOf(0, 1), NOTHING);
        is("wireOf(0, 2)", x.wireOf(0, 2), 0);
    }

    private void oneWireOrNone() {
        says("Lanterns", "each place has one wire or none.");
        LanternLogic x = Help.hung("21 01");
        x.wire(0, 0, 1);
        x.wire(0, 2, 0);
        isRefused("wire(0, 0, 1), the same wire", x, x.wire(0, 0, 1), "4:1");
        isRefused("wire(0, 2, 1), another wire", x, x.wire(0, 2, 1), "4:0");
        is("wire(0, 1, 1)", x.wire(0, 1, 1), 3);
        isRefused("wire(0, 1, 0) with all places wired", x, x.wire(0, 1, 0), "4:1");
        is("cut(0, 1)", x.cut(0, 1), 1);
        isRefused("cut(0, 1) without a wire", x, x.cut(0, 1), "5:1");
        is("wire(0, 1, 0) in place of one that is cut", x.wire(0, 1, 0), 3);
        is("account(3)", x.account(3), 3);
    }

    private void gates() {
        says("Lanterns", "All lanterns but switches are called gates.");
        for (int kind = 0; kind <= 6; kind++) {
            LanternLogic x = Help.hung(kind + "2 01");
            is("flickers(0, 1) of the kind " + kind, x.flickers(0, 1), kind == 0 ? BAD : 0);
            is("flickers(0, 0) of the kind " + kind, x.flickers(0, 0), BAD);
            is("account(2) with the kind " + kind, x.account(2), kind == 0 ? 2 : 1);
            isShare("meanWick() with the kind " + kind, x.meanWick(), kind == 0 ? 0.0 : 2.0);
            is("set(0, true) of the kind " + kind, x.set(0, true), kind == 0 ? 1 : REFUSED);
        }
    }

    private void gatesWithoutWires() {
        says(FINDS, "A gate without any wire finds dark.");
        for (int kind = 1; kind <= 6; kind++) {
            LanternLogic x = Help.hung(kind + "1 01");
            is("lanternOf(0, 6) of the kind " + kind, x.lanternOf(0, 6), 0);
            isText("the kind " + kind, seen(x, 0, 3), "....");
            x.wire(0, 0, 1);
            x.set(1, kind != 1);
            is("lanternOf(0, 6) with a wire", x.lanternOf(0, 6), 1);
            x.tick(1);
            x.cut(0, 0);
            is("lanternOf(0, 6) behind the cut", x.lanternOf(0, 6), 0);
            isText("the kind " + kind + " behind the cut", seen(x, 0, 2), "#..");
        }
    }

    private void gatesWithWires() {
        says(FINDS, "Otherwise, a gate not finds a glow if the lantern of its wire is dark;");
        finds(1, "0", "#.");

        says(FINDS, "a gate and, if those of all its wires glow;");
        finds(2, "2", ".#");
        finds(2, "01", "...#");
        finds(2, "12", "...#");
        finds(2, "012", ".......#");

        says(FINDS, "or, if that of a wire glows;");
        finds(3, "1", ".#");
        finds(3, "02", ".###");
        finds(3, "012", ".#######");

        says(FINDS, "unlike, if those of an odd number of its wires glow;");
        finds(4, "0", ".#");
        finds(4, "1", ".#");
        finds(4, "01", ".##.");

        says(FINDS, "most, if more than half of those of its wires glow;");
        finds(5, "0", ".#");
        finds(5, "2", ".#");
        finds(5, "01", "...#");
        finds(5, "12", "...#");
        finds(5, "012", "...#.###");

        says(FINDS, "and alike, if the one of its wire glows.");
        finds(6, "0", ".#");
    }

    /** Wires from switch 0, 1, .. lead to the places; in the row r, the switch k glows by bit k of r. */
    private void finds(int kind, String places, String rows) {
        for (int row = 0; row < rows.length(); row++) {
            LanternLogic x = Help.hung("01 01 01 " + kind + "1");
            for (int k = 0; k < places.length(); k++) {
                x.wire(3, places.charAt(k) - '0', k);
                if ((row >> k & 1) == 1) {
                    x.set(k, true);
                }
            }
            String with = " of the kind " + kind + " with wires to " + places + " in the row " + row;
            is("lanternOf(3, 6)" + with, x.lanternOf(3, 6), rows.charAt(row) == '#' ? 1 : 0);
            isText("lantern 3" + with, seen(x, 3, 1), "." + rows.charAt(row));
        }
    }

    private void allByHowItWasAhead() {
        says("Ticks", "In a tick, each gate finds what it finds by how all lanterns are ahead of the tick.");
        LanternLogic rising = Help.hung("01 61 61 61");
        LanternLogic falling = Help.hung("61 61 61 01");
        for (int k = 0; k < 3; k++) {
            rising.wire(k + 1, 0, k);
            falling.wire(k, 0, k + 1);
        }
        rising.set(0, true);
        falling.set(3, true);
        for (String glow : new String[] {"#...", "##..", "###.", "####", "####"}) {
            isText("all", Help.all(rising), glow);
            isText("all, numbered the other way", Help.all(falling), new StringBuilder(glow).reverse().toString());
            rising.tick(1);
            falling.tick(1);
        }
        LanternLogic two = Help.hung("11 11");
        two.wire(0, 0, 1);
        two.wire(1, 0, 0);
        is("tick(1) of two nots that see each other", two.tick(1), 2);
        isText("all", Help.all(two), "##");
        is("tick(1)", two.tick(1), 2);
        isText("all", Help.all(two), "..");
    }

    private void switchesAtOnce() {
        says("Ticks", "A switch is as it was set; this can be seen at once.");
        LanternLogic x = Help.hung("01 04");
        for (int k = 0; k < 2; k++) {
            is("set(k, true)", x.set(k, true), k + 1);
            is("lanternOf(k, 2)", x.lanternOf(k, 2), 1);
        }
        isText("all", Help.all(x), "##");
        is("account(4)", x.account(4), 2);
        is("tick(99), which changes no switch", x.tick(99), 0);
        isText("all", Help.all(x), "##");
        x.set(1, false);
        isText("all", Help.all(x), "#.");
    }

    private void wicksDelay() {
        says("Ticks", "It is as it found itself in the tick that was as many ticks ago as its wick is, less 1,"
            + " all gates at once: with a wick of 1, as it finds itself in this tick.");
        String[] flashes = {".#...", "..#..", "...#.", "....#"};
        for (int wick = 1; wick <= 4; wick++) {
            LanternLogic x = Help.hung("01 6" + wick);
            x.wire(1, 0, 0);
            x.set(0, true);
            isText("the wick " + wick + ", to the first tick", seen(x, 1, 1), flashes[wick - 1].substring(0, 2));
            x.set(0, false);
            isText("the wick " + wick + ", a flash of one tick", seen(x, 1, 3), flashes[wick - 1].substring(1));
            isText("the wick " + wick + ", behind it", seen(x, 1, 4).substring(1), "....");
        }
        LanternLogic many = Help.hung("01 64 63 62 61");
        for (int k = 1; k <= 4; k++) {
            many.wire(k, 0, 0);
        }
        many.set(0, true);
        for (String glow : new String[] {"#....", "#...#", "#..##", "#.###", "#####", "#####"}) {
            isText("all wicks at once", Help.all(many), glow);
            many.tick(1);
        }
    }

    private void darkAheadOfIt() {
        says("Ticks", "Ahead of its first such tick, a gate is dark.");
        String[] nots = {".####", "..###", "...##", "....#"};
        for (int wick = 1; wick <= 4; wick++) {
            LanternLogic x = Help.hung("01 01");
            x.set(1, true);
            x.tick(50);
            x.hang(1, wick);
            x.wire(2, 0, 0);
            isText("a not hung up late, with the wick " + wick, seen(x, 2, 4), nots[wick - 1]);
        }
    }

    private void settled() {
        says("Ticks", "All is settled if neither how a lantern is, nor what gates found in ticks that still count,"
            + " would be different behind a tick.");
        LanternLogic x = Help.hung("01 61");
        x.wire(1, 0, 0);
        is("settlesIn()", x.settlesIn(), 0);
        x.set(0, true);
        is("settlesIn(), a lantern would be different", x.settlesIn(), 1);
        is("flickers(1, 0), a lantern would be different", x.flickers(1, 0), NOTHING);
        x.tick(1);
        is("settlesIn()", x.settlesIn(), 0);
        LanternLogic y = Help.hung("01 64");
        y.wire(1, 0, 0);
        y.set(0, true);
        y.tick(1);
        y.set(0, false);
        int[] found = {4, 2, 1, 0, 0};
        for (int t = 0; t < 5; t++) {
            is("lanternOf(1, 7) behind " + t, y.lanternOf(1, 7), found[t]);
            is("settlesIn(), what is found would be different, behind " + t, y.settlesIn(), 4 - t);
            is("flickers(1, 0) behind " + t, y.flickers(1, 0), t < 4 ? NOTHING : 0);
            y.tick(1);
        }
    }
}
