/** What several tests do with a LanternLogic. */
final class Help {
    static final int NONE = -11;
    static final int BAD = -12;
    static final int FULL = -13;
    static final int REFUSED = -14;
    static final int NOTHING = -15;
    static final int[] FAR = {Integer.MIN_VALUE, -1000, -1, 1000, Integer.MAX_VALUE};

    private Help() {
    }

    static void write(LanternLogic x, String text) {
        for (int i = 0; i < text.length(); i++) {
            x.append(text.charAt(i));
        }
    }

    static int run(LanternLogic x, String text) {
        write(x, text);
        return x.run();
    }

    /** The line as its characters tell it, which must end where its length says. */
    static String line(LanternLogic x, int length) {
        StringBuilder read = new StringBuilder();
        for (int i = 0; i < length; i++) {
            read.append((char) x.character(i));
        }
        return x.character(length) == NONE && x.character(-1) == NONE ? read.toString() : read + " without an end";
    }

    static String all(LanternLogic x) {
        return line(x, x.tell());
    }

    static String one(LanternLogic x, int lantern) {
        return line(x, x.tellLantern(lantern));
    }

    /** The reasons kept, as "8:2 11:3". */
    static String reasons(LanternLogic x) {
        StringBuilder told = new StringBuilder();
        for (int depth = 0; x.reason(depth, false) != NOTHING && depth < 20; depth++) {
            told.append(depth == 0 ? "" : " ").append(x.reason(depth, false)).append(':').append(x.reason(depth, true));
        }
        return told.toString();
    }

    /** All that can be asked of the state, without the text, the line, the reasons and what can be undone. */
    static String state(LanternLogic x) {
        StringBuilder told = new StringBuilder(accounts(x));
        int count = x.account(1);
        for (int k = 0; k < count; k++) {
            told.append('|').append(lantern(x, k));
        }
        return told.toString();
    }

    static String accounts(LanternLogic x) {
        StringBuilder told = new StringBuilder();
        for (int what = 0; what <= 10; what++) {
            told.append(x.account(what)).append(' ');
        }
        return told.toString();
    }

    static String lantern(LanternLogic x, int k) {
        StringBuilder told = new StringBuilder();
        for (int what = 0; what <= 7; what++) {
            told.append(x.lanternOf(k, what)).append(' ');
        }
        for (int place = 0; place <= 2; place++) {
            told.append(x.wireOf(k, place)).append(' ');
        }
        return told.toString();
    }

    /** Hangs up lanterns: kind and wick of each, as in "01 54". */
    static LanternLogic hung(String lanterns) {
        LanternLogic x = new LanternLogic();
        for (String lantern : lanterns.split(" ")) {
            x.hang(lantern.charAt(0) - '0', lantern.charAt(1) - '0');
        }
        return x;
    }

    /** A gate of the kind with a wick of 1, number 3, and switches 0 to 2 led to its first places. */
    static LanternLogic gate(int kind, int wires) {
        LanternLogic x = hung("01 01 01 " + kind + "1");
        for (int place = 0; place < wires; place++) {
            x.wire(3, place, place);
        }
        return x;
    }
}
