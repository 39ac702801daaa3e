import java.util.ArrayList;
import java.util.List;
import java.util.Random;

/** Long runs of calls, drawn with fixed seeds, whose answers must be those of PlainLanterns. */
public final class ModelTest {
    private static final int OBJECTS = 400;
    private static final int CALLS = 512;
    private static final int MOST_AT_ONCE = 3;
    private static final int MOST_OF_A_TEXT = 71;
    private static final int[] FAR = {Integer.MIN_VALUE, -12, -1, 3, 7, 16, 17, 99, 100, 1000, Integer.MAX_VALUE};

    private static final Due due = new Due();

    private final Random random;
    private final LanternLogic x = new LanternLogic();
    private final PlainLanterns plain = new PlainLanterns();
    private final List<String> calls = new ArrayList<>();
    private int switchShare;
    private boolean isWrong;

    private ModelTest(int seed) {
        random = new Random(seed);
        switchShare = 1 + random.nextInt(5);
    }

    public static void main(String[] args) {
        int objects = args.length > 0 ? Integer.parseInt(args[0]) : OBJECTS;
        int first = args.length > 1 ? Integer.parseInt(args[1]) : 1;
        for (int seed = first; seed < first + objects; seed++) {
            new ModelTest(seed).go(seed);
        }
        due.end("ModelTest");
    }

    private void go(int seed) {
        if (seed % 3 == 1) {
            layers();
        } else if (seed % 3 == 2) {
            rings();
        }
        while (calls.size() <= CALLS - MOST_AT_ONCE && !isWrong) {
            makeCall(CALLS - calls.size());
        }
        if (isWrong) {
            due.fail("seed " + seed + ", latest calls: " + calls.subList(Math.max(0, calls.size() - 25), calls.size()));
        }
    }

    /** A few switches and gates whose wires come from lanterns hung up before, so that tables are asked. */
    private void layers() {
        int switches = 1 + random.nextInt(5);
        int count = switches + 1 + random.nextInt(16 - switches);
        for (int k = 0; k < count; k++) {
            int kind = k < switches ? 0 : 1 + random.nextInt(6);
            hangOne(kind, 1 + random.nextInt(4));
            for (int place = 0; place < 3 && kind != 0; place++) {
                wireOne(k, place, random.nextInt(k));
            }
        }
    }

    /** Gates in rings, which go on for long. */
    private void rings() {
        int count = 4 + random.nextInt(13);
        for (int k = 0; k < count; k++) {
            int[] kinds = {0, 1, 1, 4, 4, 6, 6, 6, 5, 3};
            hangOne(kinds[random.nextInt(k == 0 ? 1 : kinds.length)], 1 + random.nextInt(4));
        }
        int start = 1;
        while (start < count) {
            int end = Math.min(count, start + 1 + random.nextInt(8));
            for (int k = start; k < end; k++) {
                wireOne(k, 0, k + 1 < end ? k + 1 : start);
            }
            start = end;
        }
        for (int k = 1; k < count; k++) {
            if (random.nextInt(6) == 0) {
                wireOne(k, 1, random.nextInt(count));
            }
        }
    }

    private void hangOne(int kind, int wick) {
        same("hang(" + kind + ", " + wick + ")", x.hang(kind, wick), plain.hang(kind, wick));
    }

    private void wireOne(int lantern, int place, int from) {
        same("wire(" + lantern + ", " + place + ", " + from + ")", x.wire(lantern, place, from),
            plain.wire(lantern, place, from));
    }

    private void same(String call, double got, double want) {
        calls.add(call + "=" + want);
        if (got != want) {
            isWrong = true;
            due.fail(call + " answered " + got + ", plainly it is " + want);
        }
    }

    private int lantern() {
        int count = plain.numbersInUse().size();
        return count == 0 || random.nextInt(40) == 0 ? FAR[random.nextInt(FAR.length)] : random.nextInt(count);
    }

    private int upTo(int most) {
        return random.nextInt(40) == 0 ? FAR[random.nextInt(FAR.length)] : random.nextInt(most + 1);
    }

    private int kind() {
        return random.nextInt(10) < switchShare ? 0 : upTo(6);
    }

    private void makeCall(int left) {
        int choice = random.nextInt(100);
        if (choice < 55) {
            change(choice);
        } else if (choice < 90) {
            ask(choice);
        } else if (choice < 95 && left >= MOST_OF_A_TEXT) {
            text();
        } else {
            tellOrTurnBack();
        }
    }

    private void change(int choice) {
        if (choice < 10) {
            hangOne(kind(), random.nextInt(40) == 0 ? upTo(6) : 1 + random.nextInt(4));
        } else if (choice < 32) {
            wireOne(lantern(), upTo(2), lantern());
        } else if (choice < 36) {
            int lantern = lantern();
            int place = upTo(2);
            same("cut(" + lantern + ", " + place + ")", x.cut(lantern, place), plain.cut(lantern, place));
        } else if (choice < 45) {
            int lantern = lantern();
            boolean isOn = random.nextBoolean();
            same("set(" + lantern + ", " + isOn + ")", x.set(lantern, isOn), plain.set(lantern, isOn));
        } else if (choice < 47) {
            boolean areAllowed = random.nextBoolean();
            same("loops(" + areAllowed + ")", x.loops(areAllowed), plain.loops(areAllowed));
        } else {
            int ticks = random.nextInt(4) == 0 ? upTo(99) : 1 + random.nextInt(4);
            same("tick(" + ticks + ")", x.tick(ticks), plain.tick(ticks));
        }
    }

    private void ask(int choice) {
        int lantern = lantern();
        String on = "(" + lantern + ")";
        switch (choice - 55) {
            case 0: same("leads" + on, x.leads(lantern), plain.leads(lantern)); break;
            case 1: same("looped()", x.looped(), plain.looped()); break;
            case 2: case 3: same("depth" + on, x.depth(lantern), plain.depth(lantern)); break;
            case 4: case 5: same("depthAgain" + on, x.depthAgain(lantern), plain.depth(lantern)); break;
            case 6: case 7: same("settlesIn()", x.settlesIn(), plain.settlesIn()); break;
            case 8: case 9: same("period()", x.period(), plain.period()); break;
            case 10: case 11: same("periodAgain()", x.periodAgain(), plain.period()); break;
            case 12: case 13: case 14: case 15: askFlickers(lantern); break;
            case 16: same("switchesOf" + on, x.switchesOf(lantern), plain.switchesOf(lantern)); break;
            case 17: case 18: case 19: same("table" + on, x.table(lantern), plain.table(lantern)); break;
            case 20: case 21: case 22: same("tableAgain" + on, x.tableAgain(lantern), plain.table(lantern)); break;
            case 23: same("isBalanced()", x.isBalanced(), plain.isBalanced()); break;
            case 24: same("meanWick()", x.meanWick(), plain.meanWick()); break;
            case 25: same("glowShare()", x.glowShare(), plain.glowShare()); break;
            default: askNumbers(choice, lantern); break;
        }
    }

    private void askFlickers(int lantern) {
        int by = lantern();
        same("flickers(" + lantern + ", " + by + ")", x.flickers(lantern, by), plain.flickers(lantern, by));
    }

    private void askNumbers(int choice, int lantern) {
        int what = upTo(13);
        if (choice % 3 == 0) {
            same("account(" + what + ")", x.account(what), plain.account(what));
        } else if (choice % 3 == 1) {
            same("lanternOf(" + lantern + ", " + what + ")", x.lanternOf(lantern, what), plain.lanternOf(lantern, what));
        } else {
            int place = upTo(3);
            int depth = upTo(3);
            same("wireOf(" + lantern + ", " + place + ")", x.wireOf(lantern, place), plain.wireOf(lantern, place));
            same("reason(" + depth + ", true)", x.reason(depth, true), plain.reason(depth, true));
            same("reason(" + depth + ", false)", x.reason(depth, false), plain.reason(depth, false));
        }
    }

    private void tellOrTurnBack() {
        int lantern = lantern();
        int index = upTo(20);
        switch (random.nextInt(16)) {
            case 0: same("save()", x.save(), plain.save()); break;
            case 1: same("restore()", x.restore(), plain.restore()); break;
            case 2: case 3: case 4: same("undo()", x.undo(), plain.undo()); break;
            case 5: case 6: same("tell()", x.tell(), plain.tell()); break;
            case 7: case 8: same("tellLantern(" + lantern + ")", x.tellLantern(lantern), plain.tellLantern(lantern)); break;
            case 9: same("append(" + (30 + index) + ")", x.append(30 + index), plain.append(30 + index)); break;
            case 10: same("run()", x.run(), plain.run()); break;
            default: same("character(" + index + ")", x.character(index), plain.character(index)); break;
        }
    }

    private void text() {
        StringBuilder text = new StringBuilder(order());
        while (random.nextInt(4) != 0) {
            text.append(random.nextInt(60) == 0 ? "," : ";").append(order());
        }
        if (random.nextInt(3) == 0) {
            int at = random.nextInt(text.length());
            if (random.nextBoolean()) {
                text.setCharAt(at, "0123456789;.<*+- hwcstaniregkut~"
                    .charAt(random.nextInt(32)));
            } else {
                text.setLength(at);
            }
        }
        for (int i = 0; i < text.length() && i < 62; i++) {
            same("append(" + (int) text.charAt(i) + ")", x.append(text.charAt(i)), plain.append(text.charAt(i)));
        }
        same("run() of '" + text + "'", x.run(), plain.run());
        for (int depth = 0; depth < 4; depth++) {
            same("reason(" + depth + ", true)", x.reason(depth, true), plain.reason(depth, true));
            same("reason(" + depth + ", false)", x.reason(depth, false), plain.reason(depth, false));
        }
    }

    private String number() {
        int lantern = Math.floorMod(lantern(), 100);
        return lantern < 10 && random.nextInt(8) == 0 ? "0" + lantern : "" + lantern;
    }

    private String order() {
        int place = random.nextInt(3) + random.nextInt(20) / 19;
        switch (random.nextInt(8)) {
            case 0: return "hang " + Math.floorMod(kind(), 10) + "*" + (1 + random.nextInt(16) % 5 % 4);
            case 1: case 2: return "wire " + number() + "." + place + "<" + number();
            case 3: return "cut " + number() + "." + place;
            case 4: case 5: return "set " + number() + (random.nextBoolean() ? "+" : "-");
            default: return "tick " + (random.nextInt(10) == 0 ? random.nextInt(100) : 1 + random.nextInt(9));
        }
    }
}
