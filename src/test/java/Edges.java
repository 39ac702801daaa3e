/** Tests of sentences of the document, each of which quotes the one that it holds. */
abstract class Edges {
    static final int NONE = Help.NONE;
    static final int BAD = Help.BAD;
    static final int FULL = Help.FULL;
    static final int REFUSED = Help.REFUSED;
    static final int NOTHING = Help.NOTHING;

    /** Numbers that no lantern, place, kind, wick, index or account has. */
    static final int[] FAR = {Integer.MIN_VALUE, -65536, -32, -16, -1, 17, 32, 64, 65536, Integer.MAX_VALUE};

    private final Due due;
    private final Sentences sentences;

    Edges(Due due, Sentences sentences) {
        this.due = due;
        this.sentences = sentences;
    }

    abstract void all();

    /** What follows holds these words of a part of the document. */
    final void says(String part, String... words) {
        for (String quote : words) {
            sentences.quote(part, quote);
        }
    }

    final void is(String call, long got, long want) {
        due.is(call, got, want);
    }

    final void isShare(String call, double got, double want) {
        due.isShare(call, got, want);
    }

    final void isText(String call, String got, String want) {
        due.isText(call, got, want);
    }

    final void isTrue(String what, boolean holds) {
        due.isTrue(what, holds);
    }

    /** The call was refused, for these reasons, as in "8:2 11:3". */
    final void isRefused(String call, LanternLogic x, int got, String reasons) {
        due.is(call, got, REFUSED);
        due.isText("reasons of " + call, Help.reasons(x), reasons);
    }

    /** All that can be asked of an object, so that a call that leaves it unchanged can be told. */
    static String whole(LanternLogic x) {
        return Help.state(x) + "undo " + x.account(12) + " text " + x.account(11) + " line " + line(x)
            + " reasons " + Help.reasons(x);
    }

    private static String line(LanternLogic x) {
        StringBuilder line = new StringBuilder();
        for (int i = 0; x.character(i) != NONE && i < 100; i++) {
            line.append((char) x.character(i));
        }
        return line.toString();
    }

    /** Lanterns 0 to 15, all of the kind, with a wick of 1. */
    static LanternLogic sixteen(int kind) {
        LanternLogic x = new LanternLogic();
        for (int k = 0; k < 16; k++) {
            x.hang(kind, 1);
        }
        return x;
    }

    /** How a lantern is now and behind each of the ticks that follow, as in "..#". */
    static String seen(LanternLogic x, int lantern, int ticks) {
        StringBuilder seen = new StringBuilder();
        for (int t = 0; t <= ticks; t++) {
            if (t > 0) {
                x.tick(1);
            }
            seen.append(x.lanternOf(lantern, 2) == 1 ? '#' : '.');
        }
        return seen.toString();
    }
}
