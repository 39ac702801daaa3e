/** Sentences on texts and lines: the terms, and promises 21 to 25. */
final class TextEdges extends Edges {
    /** Each form of an order, with 9 for any digit. */
    private static final String[] FORMS = {"hang 9*9", "wire 9.9<9", "wire 99.9<9", "wire 9.9<99", "wire 99.9<99",
        "cut 9.9", "cut 99.9", "set 9+", "set 99+", "set 9-", "set 99-", "tick 9", "tick 99"};
    private static final String EIGHT = "tick 1;tick 1;tick 1;tick 1;tick 1;tick 1;tick 1;tick 1";

    TextEdges(Due due, Sentences sentences) {
        super(due, sentences);
    }

    @Override
    void all() {
        oneOrMore();
        hangOrder();
        wireOrder();
        cutOrder();
        setOrder();
        tickOrder();
        digits();
        faultPosition();
        tooEarly();
        letterByLetter();
        oneAfterTheOther();
        append();
        appendBad();
        appendFull();
        run();
        runWrong();
        runRefused();
        tell();
        tellNone();
        tellLantern();
        tellLanternWires();
        tellLanternNone();
        character();
        characterNone();
    }

    private void runs(LanternLogic x, String text, int want) {
        is("run() of '" + text + "'", Help.run(x, text), want);
    }

    /** The text is wrong at this position, on an object that has no lanterns and on one that has some. */
    private void isWrong(String text, int position) {
        runs(new LanternLogic(), text, -1000 - position);
        runs(Help.hung("01 31 31"), text, -1000 - position);
    }

    private void oneOrMore() {
        says("Texts", "A text has one or more orders with \";\" between them:");
        isWrong("", 0);
        runs(new LanternLogic(), "tick 1", 1);
        runs(new LanternLogic(), "tick 1;tick 1", 2);
        LanternLogic x = new LanternLogic();
        runs(x, EIGHT, 8);
        is("account(0)", x.account(0), 8);
        isWrong(";", 0);
        isWrong(";tick 1", 0);
        isWrong("tick 1;", 7);
        isWrong("tick 1;;tick 1", 7);
        isWrong("tick 1 ;tick 1", 6);
        isWrong("tick 1; tick 1", 7);
        isWrong("tick 1tick 1", 6);
    }

    private void hangOrder() {
        says("Texts", "\"hang \", a kind, \"*\", and a wick;");
        for (int kind = 0; kind <= 9; kind++) {
            for (int wick = 0; wick <= 9; wick++) {
                LanternLogic x = new LanternLogic();
                boolean isRight = kind <= 6 && wick >= 1 && wick <= 4;
                runs(x, "hang " + kind + "*" + wick, isRight ? 1 : REFUSED);
                is("lanternOf(0, 0)", x.lanternOf(0, 0), isRight ? kind : NONE);
                is("lanternOf(0, 1)", x.lanternOf(0, 1), isRight ? wick : NONE);
            }
        }
        isWrong("hang 1*1*", 8);
        isWrong("hang 1.1", 6);
    }

    private void wireOrder() {
        says("Texts", "\"wire \", a lantern, \".\", a place, \"<\", and the lantern from which it leads;");
        LanternLogic x = sixteen(3);
        runs(x, "wire 15.2<0;wire 0.0<15;wire 9.1<10", 3);
        isText("one", Help.one(x, 15), "15:or1(-,-,0)");
        isText("one", Help.one(x, 0), "0:or1(15,-,-)");
        isText("one", Help.one(x, 9), "9:or1(-,10,-)");
        isWrong("wire 1.1", 8);
        isWrong("wire 1<1", 6);
        isWrong("wire 1.1>1", 8);
    }

    private void cutOrder() {
        says("Texts", "\"cut \", a lantern, \".\", and a place;");
        LanternLogic x = sixteen(3);
        x.wire(15, 2, 0);
        x.wire(0, 0, 15);
        x.wire(0, 1, 15);
        runs(x, "cut 15.2;cut 0.0", 2);
        isText("one", Help.one(x, 15), "15:or1(-,-,-)");
        isText("one", Help.one(x, 0), "0:or1(-,15,-)");
        isWrong("cut 0.1<1", 7);
        isWrong("cut 0", 5);
    }

    private void setOrder() {
        says("Texts", "\"set \", a lantern, and \"+\" or \"-\";");
        LanternLogic x = sixteen(0);
        runs(x, "set 0+;set 15+;set 7+;set 7-", 4);
        isText("all", Help.all(x), "#..............#");
        runs(x, "set 15-;set 0-", 2);
        isText("all", Help.all(x), "................");
        isWrong("set 0", 5);
        isWrong("set 0*", 5);
        isWrong("set 0+-", 6);
        isWrong("set +0", 4);
    }

    private void tickOrder() {
        says("Texts", "\"tick \", and ticks.");
        for (int ticks = 0; ticks <= 99; ticks++) {
            LanternLogic x = new LanternLogic();
            runs(x, "tick " + ticks, ticks == 0 ? REFUSED : 1);
            is("account(0)", x.account(0), ticks);
        }
        isWrong("tick", 4);
        isWrong("tick ", 5);
        isWrong("tick -1", 5);
        isWrong("tick 1+", 6);
    }

    private void digits() {
        says("Texts", "Lanterns and ticks have one or two digits, the others one.");
        LanternLogic x = Help.hung("01 31 31");
        runs(x, "wire 1.0<0;wire 01.1<2;wire 2.2<00;set 00+;cut 01.1;tick 07", 6);
        isText("one", Help.one(x, 1), "1:or1(0,-,-)#");
        isText("one", Help.one(x, 2), "2:or1(-,-,0)#");
        is("account(0)", x.account(0), 7);
        isWrong("wire 001.1<0", 7);
        isWrong("wire 1.1<000", 11);
        isWrong("wire 1.01<0", 8);
        isWrong("cut 001.1", 6);
        isWrong("cut 1.01", 7);
        isWrong("set 000+", 6);
        isWrong("tick 001", 7);
        isWrong("tick 100", 7);
        isWrong("hang 01*1", 6);
        isWrong("hang 1*01", 8);
        isWrong("wire .1<0", 5);
        isWrong("wire 1.<0", 7);
        isWrong("wire 1.1<", 9);
        isWrong("cut .1", 4);
        isWrong("cut 1.", 6);
        isWrong("set +", 4);
        isWrong("hang *1", 5);
        isWrong("hang 1*", 7);
    }

    private static boolean isForm(String form, String start) {
        boolean is = start.length() <= form.length();
        for (int i = 0; i < start.length() && is; i++) {
            char sign = start.charAt(i);
            is = form.charAt(i) == '9' ? sign >= '0' && sign <= '9' : sign == form.charAt(i);
        }
        return is;
    }

    /** Whether an order can begin so, or be over with a ";" behind it. */
    private static boolean canContinue(String start) {
        boolean isOver = start.endsWith(";");
        String order = isOver ? start.substring(0, start.length() - 1) : start;
        for (String form : FORMS) {
            if (isForm(form, order) && (!isOver || form.length() == order.length())) {
                return true;
            }
        }
        return false;
    }

    private static boolean isOrder(String order) {
        for (String form : FORMS) {
            if (isForm(form, order) && form.length() == order.length()) {
                return true;
            }
        }
        return false;
    }

    private void faultPosition() {
        says("Texts", "The fault position of a text is the index of its first character with which no such text can"
            + " continue,");
        for (String ahead : new String[] {"", "tick 1;", "wire 10.1<0;set 1-;"}) {
            for (String form : FORMS) {
                for (int at = 0; at <= form.length(); at++) {
                    isWrongBehind(ahead, form.substring(0, at));
                }
            }
        }
        isWrong("hung 9*9;tack", 1);
        isWrong(EIGHT + "11", 56);
    }

    /** Each character that cannot continue the order is the fault, whatever comes behind it. */
    private void isWrongBehind(String ahead, String start) {
        for (int code = 32; code <= 126; code++) {
            String order = start + (char) code;
            if (!canContinue(order)) {
                isWrong(ahead + order, ahead.length() + start.length());
                isWrong(ahead + order + ";tick 1", ahead.length() + start.length());
            }
        }
    }

    private void tooEarly() {
        says("Texts", "or its length if it ends too early;");
        for (String ahead : new String[] {"", "tick 1;", "cut 10.1;"}) {
            for (String form : FORMS) {
                for (int at = 0; at < form.length(); at++) {
                    String text = ahead + form.substring(0, at);
                    if (!isOrder(form.substring(0, at))) {
                        isWrong(text, text.length());
                    }
                }
            }
        }
        isWrong(EIGHT + ";", 56);
        isWrong(EIGHT + ";tick", 60);
    }

    private void letterByLetter() {
        says("Texts", "words are looked at letter by letter.");
        for (String word : new String[] {"hang", "wire", "cut", "set", "tick"}) {
            for (int at = 0; at < word.length(); at++) {
                String start = word.substring(0, at);
                isWrong(start, at);
                isWrong(start + "x", at);
                isWrong(start + word.substring(at).toUpperCase(), at);
                isWrong(start + " " + word.substring(at), at);
            }
            isWrong(word, word.length());
            isWrong(word + "s", word.length());
            isWrong(word + "  1", word.length() + 1);
        }
        isWrong("hire 1.1<0", 1);
        isWrong("sick 1", 1);
        isWrong("cet 1+", 1);
    }

    private void oneAfterTheOther() {
        says("Texts", "The orders are carried out one after the other, all or none.");
        LanternLogic x = new LanternLogic();
        runs(x, "hang 0*1;hang 1*1;wire 1.0<0;tick 1;set 0+;tick 2;cut 1.0", 7);
        isText("one", Help.one(x, 1), "1:not1(-)");
        is("lanternOf(1, 5)", x.lanternOf(1, 5), 2);
        String before = Help.state(x);
        runs(x, "set 0-;wire 1.0<0;tick 9;hang 3*3;cut 1.0;tick 1;cut 1.0", REFUSED);
        isText("state behind the last that fails", Help.state(x), before);
        runs(x, "cut 1.0;set 0-;tick 1", REFUSED);
        isText("state behind the first that fails", Help.state(x), before);
        runs(x, "set 0-;set 0+;set 0-", 3);
        is("lanternOf(0, 5)", x.lanternOf(0, 5), 4);
    }

    private void append() {
        says("Promise 21", "Appends a character to the text.", "`code`: the code of the character, 32 to 126",
            "Returns the length of the text;");
        LanternLogic x = new LanternLogic();
        is("append(31)", x.append(31), BAD);
        is("append(127)", x.append(127), BAD);
        int length = 0;
        for (int code = 32; code <= 126; code++) {
            if (length == 60) {
                x.run();
                length = 0;
            }
            length++;
            is("append(" + code + ")", x.append(code), length);
            is("account(11)", x.account(11), length);
        }
    }

    private void appendBad() {
        says("Promise 21", "BAD if the code is out of range;");
        LanternLogic x = new LanternLogic();
        x.append('t');
        String before = whole(x);
        for (int code : new int[] {31, 127, 0, -1, 10, 128, 255, 256 + 't', 65536 + 't', Integer.MIN_VALUE,
            Integer.MAX_VALUE}) {
            is("append(" + code + ")", x.append(code), BAD);
        }
        isText("all of it is as before", whole(x), before);
        runs(x, "ick 1", 1);
    }

    private void appendFull() {
        says("Promise 21", "FULL if the text has 60 characters.");
        LanternLogic x = new LanternLogic();
        String sixty = "tick 11;tick 11;tick 11;tick 11;tick 11;tick 1;tick 1;tick 1";
        for (int i = 0; i < 60; i++) {
            is("append(" + (int) sixty.charAt(i) + ")", x.append(sixty.charAt(i)), i + 1);
        }
        String before = whole(x);
        is("append(48) as the 61st", x.append(48), FULL);
        is("append(32) as the 61st", x.append(32), FULL);
        is("append(126) as the 61st", x.append(126), FULL);
        isText("all of it is as before", whole(x), before);
        is("run()", x.run(), 8);
        is("account(0)", x.account(0), 58);
        is("append(32) as the first again", x.append(32), 1);
    }

    private void run() {
        says("Promise 22", "Reads the text as orders and carries them out, all or none.");
        LanternLogic x = Help.hung("01 11");
        String before = Help.state(x);
        runs(x, "wire 1.0<0;tick 3;set 1+", REFUSED);
        isText("state, none", Help.state(x), before);
        runs(x, "wire 1.0<0;tick 3;set", -1021);
        isText("state, none", Help.state(x), before);
        runs(x, "wire 1.0<0;tick 3;set 0+", 3);
        isText("all of them", Help.one(x, 1), "1:not1(0)#");
        is("account(0)", x.account(0), 3);
        is("account(4)", x.account(4), 2);

        says("Promise 22", "Returns how many orders;");
        for (int orders = 1; orders <= 8; orders++) {
            runs(x, EIGHT.substring(0, 7 * orders - 1), orders);
        }
    }

    private void runWrong() {
        says("Promise 22", "-1000 minus the fault position if the text is wrong;");
        LanternLogic x = Help.hung("01 31");
        x.set(0, false);
        String state = Help.state(x);
        String reasons = Help.reasons(x);
        int undoable = x.account(12);
        runs(x, "", -1000);
        runs(x, "x", -1000);
        runs(x, "tx", -1001);
        runs(x, "hang 1*1;set 0+;tick 100", -1023);
        runs(x, EIGHT + ";tic~", -1059);
        runs(x, EIGHT + ";tick", -1060);
        is("account(11)", x.account(11), 0);
        is("account(12)", x.account(12), undoable);
        isText("state", Help.state(x), state);
        isText("reasons", Help.reasons(x), reasons);
    }

    private void runRefused() {
        says("Promise 22", "REFUSED for the reason 10.");
        LanternLogic x = Help.hung("01 31");
        String state = Help.state(x);
        isRefused("run()", x, Help.run(x, "set 0-"), "10:0 7:0");
        isRefused("run()", x, Help.run(x, EIGHT.substring(7) + ";set 1+"), "10:7 6:3");
        isRefused("run()", x, Help.run(x, "tick 0"), "10:0 13:-12");
        isRefused("run()", x, Help.run(x, "tick 1;cut 2.0"), "10:1 13:-11");
        isText("state", Help.state(x), state);
        is("account(11)", x.account(11), 0);
        is("account(12)", x.account(12), 2);
    }

    private void tell() {
        says("Promise 23", "Writes a line about all lanterns, in place of the line before: for each \"#\" if it glows,"
            + " and \".\" otherwise.");
        LanternLogic x = sixteen(0);
        isText("all dark", Help.all(x), "................");
        x.set(0, true);
        x.set(15, true);
        isText("the lowest and the highest", Help.all(x), "#..............#");
        LanternLogic y = Help.hung("01 11");
        y.tellLantern(1);
        isText("in place of a longer line", Help.all(y), "..");
        y.tell();
        y.undo();
        isText("in place of a line of two", Help.all(y), ".");
        y.wire(0, 0, 0);
        isText("a gate", Help.all(y), ".");
    }

    private void tellNone() {
        says("Promise 23", "Returns the length of the line, 0 without lanterns.");
        LanternLogic x = new LanternLogic();
        is("tell()", x.tell(), 0);
        is("character(0)", x.character(0), NONE);
        for (int k = 0; k < 16; k++) {
            x.hang(0, 1);
            is("tell()", x.tell(), k + 1);
        }
        LanternLogic y = Help.hung("01");
        y.tell();
        y.undo();
        is("tell() in place of a line", y.tell(), 0);
        is("character(0)", y.character(0), NONE);
    }

    private void tellLantern() {
        says("Promise 24", "Writes a line about a lantern, in place of the line before: its number, \":\",", "its wick,",
            "its kind as a word, \"switch\", \"not\", \"and\", \"or\", \"unlike\", \"most\" or \"alike\",",
            "`lantern`: the lantern");
        String[] lines = {"switch", "not(-)", "and(-,-,-)", "or(-,-,-)", "unlike(-,-)", "most(-,-,-)", "alike(-)"};
        LanternLogic x = new LanternLogic();
        for (int k = 0; k < 16; k++) {
            int wick = 1 + k % 4;
            x.hang(k % 7, wick);
            String line = lines[k % 7];
            int end = line.indexOf('(') < 0 ? line.length() : line.indexOf('(');
            isText("one", Help.one(x, k), k + ":" + line.substring(0, end) + wick + line.substring(end));
        }
        isText("one, in place of a longer line", Help.one(x, 1), "1:not2(-)");

        says("Promise 24", "and behind it \"#\" if it glows;");
        x.set(0, true);
        x.wire(1, 0, 2);
        x.tick(2);
        isText("a switch", Help.one(x, 0), "0:switch1#");
        isText("a gate", Help.one(x, 1), "1:not2(2)#");
        isText("another switch", Help.one(x, 7), "7:switch4");
        isText("another gate", Help.one(x, 8), "8:not1(-)");
    }

    private void tellLanternWires() {
        says("Promise 24", "and for a gate in \"(\" and \")\" for each place the lantern from which the wire leads,"
            + " or \"-\", with \",\" between two;");
        LanternLogic x = sixteen(5);
        x.wire(15, 1, 9);
        isText("one", Help.one(x, 15), "15:most1(-,9,-)");
        x.wire(15, 0, 10);
        x.wire(15, 2, 15);
        isText("the longest ones", Help.one(x, 15), "15:most1(10,9,15)");
        LanternLogic y = Help.hung("01 41 61");
        y.wire(1, 1, 0);
        y.wire(2, 0, 2);
        isText("two places", Help.one(y, 1), "1:unlike1(-,0)");
        isText("one place", Help.one(y, 2), "2:alike1(2)");
        isText("no place", Help.one(y, 0), "0:switch1");

        says("Promise 24", "as in \"5:and2(0,-,3)#\".", "Returns the length of the line;");
        LanternLogic z = Help.hung("01 01 01 01 01 22");
        z.wire(5, 0, 0);
        z.wire(5, 2, 3);
        z.set(0, true);
        z.set(3, true);
        z.tick(2);
        is("tellLantern(5)", z.tellLantern(5), 14);
        isText("one", Help.one(z, 5), "5:and2(0,-,3)#");
        LanternLogic longest = Help.hung("01 01 01 01 01 01 01 01 01 01 01 01 01 01 01 54");
        for (int place = 0; place < 3; place++) {
            longest.wire(15, place, 12 + place);
            longest.set(12 + place, true);
        }
        longest.tick(4);
        is("tellLantern(15)", longest.tellLantern(15), 19);
        isText("the longest line", Help.one(longest, 15), "15:most4(12,13,14)#");
    }

    private void tellLanternNone() {
        says("Promise 24", "NONE if there is no such lantern.");
        LanternLogic x = Help.hung("01 11");
        x.tell();
        String before = whole(x);
        for (int far : FAR) {
            is("tellLantern(" + far + ")", x.tellLantern(far), NONE);
        }
        is("tellLantern(2)", x.tellLantern(2), NONE);
        isText("the line stays", whole(x), before);
        is("tellLantern(1)", x.tellLantern(1), 9);
        is("tellLantern(0)", x.tellLantern(0), 9);
        is("tellLantern(16)", sixteen(0).tellLantern(16), NONE);
        is("tellLantern(0) without lanterns", new LanternLogic().tellLantern(0), NONE);
    }

    private void character() {
        says("Promise 25", "Returns a character of the line, which is empty at first.", "`index`: the index, from 0",
            "Returns the code of the character;");
        LanternLogic x = Help.hung("04");
        is("character(0) at first", x.character(0), NONE);
        x.tellLantern(0);
        String line = "0:switch4";
        for (int i = 0; i < line.length(); i++) {
            is("character(" + i + ")", x.character(i), line.charAt(i));
        }
        LanternLogic y = sixteen(0);
        y.set(15, true);
        y.tell();
        is("character(0)", y.character(0), 46);
        is("character(15)", y.character(15), 35);
    }

    private void characterNone() {
        says("Promise 25", "NONE if there is none.");
        LanternLogic x = sixteen(0);
        for (int far : FAR) {
            is("character(" + far + ") of an empty line", x.character(far), NONE);
        }
        x.tell();
        for (int far : FAR) {
            is("character(" + far + ")", x.character(far), NONE);
        }
        is("character(16)", x.character(16), NONE);
        is("character(15)", x.character(15), '.');
        x.tellLantern(0);
        is("character(9)", x.character(9), NONE);
        is("character(8)", x.character(8), '1');
    }
}
