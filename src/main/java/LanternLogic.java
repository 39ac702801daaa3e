import java.util.Arrays;

/** Logic of lanterns: switches and gates, their wires, what comes with the ticks, and what came before. */
public final class LanternLogic {
    public static final int NONE = -11;
    public static final int BAD = -12;
    public static final int FULL = -13;
    public static final int REFUSED = -14;
    public static final int NOTHING = -15;

    private static final int MOST_LANTERNS = 16;
    private static final int MOST_WICK = 4;
    private static final int PLACES = 3;
    private static final int NO_WIRE = -1;
    private static final int MOST_TICKS = 99;
    private static final int MOST_TICKS_AHEAD = 256;
    private static final int MOST_TABLE_SWITCHES = 4;
    private static final int UNDOABLE = 8;
    private static final int TEXT_ROOM = 60;
    private static final int LINE_ROOM = 32;
    private static final int WRONG_TEXT = -1000;

    private static final int SWITCH = 0;
    private static final int NOT = 1;
    private static final int AND = 2;
    private static final int OR = 3;
    private static final int UNLIKE = 4;
    private static final int MOST = 5;
    private static final int ALIKE = 6;

    private static final int NO_ROOM = 1;
    private static final int IS_SWITCH = 2;
    private static final int NO_PLACE = 3;
    private static final int PLACE_WIRED = 4;
    private static final int PLACE_BARE = 5;
    private static final int IS_GATE = 6;
    private static final int SET_SO = 7;
    private static final int CLOSES_LOOP = 8;
    private static final int HAS_LOOPS = 9;
    private static final int ORDER_FAILS = 10;
    private static final int LOOP_WIRES = 11;
    private static final int LOOPED_COUNT = 12;
    private static final int ORDER_CODE = 13;

    private final Lanterns now = new Lanterns();
    private final Lanterns snapshot = new Lanterns();
    private boolean hasSnapshot;
    private final Past past = new Past();
    private final Depths depths = new Depths();
    private final Foresight foresight = new Foresight();
    private final Text text = new Text();
    private final Line line = new Line();
    private final Reasons reasons = new Reasons();

    public LanternLogic() {
    }

    // ---- lanterns, wires

    public int hang(int kind, int wick) {
        past.hold(now);
        return kept(hangUp(kind, wick));
    }

    public int wire(int lantern, int place, int from) {
        past.hold(now);
        return kept(putWire(lantern, place, from));
    }

    public int cut(int lantern, int place) {
        past.hold(now);
        return kept(cutWire(lantern, place));
    }

    public int set(int lantern, boolean isOn) {
        past.hold(now);
        return kept(setSwitch(lantern, isOn));
    }

    public int loops(boolean areAllowed) {
        past.hold(now);
        return kept(allowLoops(areAllowed));
    }

    public int tick(int ticks) {
        past.hold(now);
        return kept(letGoBy(ticks));
    }

    public int lanternOf(int lantern, int what) {
        if (!now.isHung(lantern)) {
            return NONE;
        }
        switch (what) {
            case 0: return now.kindOf(lantern);
            case 1: return now.wickOf(lantern);
            case 2: return now.isGlowing(lantern) ? 1 : 0;
            case 3: return now.wiresTo(lantern);
            case 4: return now.wiresFrom(lantern);
            case 5: return now.changesOf(lantern);
            case 6: return now.isFinding(lantern, now.glow()) ? 1 : 0;
            case 7: return Lanterns.foundIn(now.state(), lantern);
            default: return BAD;
        }
    }

    public int wireOf(int lantern, int place) {
        if (!now.isHung(lantern)) {
            return NONE;
        }
        if (!isPlace(place)) {
            return BAD;
        }
        int from = now.sourceOf(lantern, place);
        return from == NO_WIRE ? NOTHING : from;
    }

    // ---- loops, depths

    public int leads(int lantern) {
        return now.isHung(lantern) ? Paths.ledFrom(now, lantern) : NONE;
    }

    public int looped() {
        return Paths.inLoops(now);
    }

    public int depth(int lantern) {
        return now.isHung(lantern) ? depths.byWires(now, lantern) : NONE;
    }

    public int depthAgain(int lantern) {
        return now.isHung(lantern) ? depths.byRounds(now, lantern) : NONE;
    }

    // ---- what comes

    public int settlesIn() {
        return foresight.ticksToSettle(now);
    }

    public int period() {
        return foresight.periodByKeeping(now);
    }

    public int periodAgain() {
        return foresight.periodByGoingOn(now);
    }

    public int flickers(int lantern, int by) {
        if (!now.isHung(lantern) || !now.isHung(by)) {
            return NONE;
        }
        if (now.isSwitch(lantern) || !now.isSwitch(by)) {
            return BAD;
        }
        return foresight.flickersOf(now, lantern, by);
    }

    public int switchesOf(int lantern) {
        return now.isHung(lantern) ? Paths.switchesTo(now, lantern) : NONE;
    }

    public int table(int lantern) {
        if (!now.isHung(lantern)) {
            return NONE;
        }
        return hasTable(lantern) ? Tables.byFinding(now, lantern) : NOTHING;
    }

    public int tableAgain(int lantern) {
        if (!now.isHung(lantern)) {
            return NONE;
        }
        return hasTable(lantern) ? Tables.byTicks(now, lantern, depths.byWires(now, lantern)) : NOTHING;
    }

    // ---- texts, lines

    public int append(int code) {
        return text.add(code);
    }

    public int run() {
        int answer = text.isRight() ? carryOutAll() : WRONG_TEXT - text.position();
        text.empty();
        return answer;
    }

    public int tell() {
        line.empty();
        for (int k = 0; k < now.count(); k++) {
            line.add(now.isGlowing(k) ? '#' : '.');
        }
        return line.length();
    }

    public int tellLantern(int lantern) {
        if (!now.isHung(lantern)) {
            return NONE;
        }
        line.empty();
        line.addNumber(lantern);
        line.add(':');
        line.addWord(wordOf(now.kindOf(lantern)));
        line.addNumber(now.wickOf(lantern));
        if (!now.isSwitch(lantern)) {
            addWires(lantern);
        }
        if (now.isGlowing(lantern)) {
            line.add('#');
        }
        return line.length();
    }

    public int character(int index) {
        return line.codeAt(index);
    }

    // ---- reasons, accounts, undo and the snapshot

    public int reason(int depth, boolean isDetail) {
        return isDetail ? reasons.detailAt(depth) : reasons.numberAt(depth);
    }

    public int account(int what) {
        switch (what) {
            case 0: return now.ticks();
            case 1: return now.count();
            case 2: return Integer.bitCount(now.switches());
            case 3: return now.wires();
            case 4: return Integer.bitCount(now.glow());
            case 5: return Integer.bitCount(Paths.inLoops(now));
            case 6: return now.areLoopsAllowed() ? 1 : 0;
            case 7: return now.changes();
            case 8: return now.tickChanges();
            case 9: return now.sets();
            case 10: return depths.greatest(now);
            case 11: return text.length();
            case 12: return past.undoable();
            default: return BAD;
        }
    }

    public int isBalanced() {
        for (int k = 0; k < now.count(); k++) {
            boolean isOdd = (now.changesOf(k) & 1) == 1;
            if (isOdd != now.isGlowing(k)) {
                return 0;
            }
        }
        return now.changes() == now.tickChanges() + now.sets() ? 1 : 0;
    }

    public double meanWick() {
        int gates = 0;
        int sum = 0;
        for (int k = 0; k < now.count(); k++) {
            if (!now.isSwitch(k)) {
                gates++;
                sum += now.wickOf(k);
            }
        }
        return gates == 0 ? 0.0 : (double) sum / (double) gates;
    }

    public float glowShare() {
        int count = now.count();
        return count == 0 ? 0.0f : (float) Integer.bitCount(now.glow()) / (float) count;
    }

    public int undo() {
        if (past.undoable() == 0) {
            return NOTHING;
        }
        past.bringBackLatest(now);
        return past.undoable();
    }

    public int save() {
        snapshot.copyFrom(now);
        hasSnapshot = true;
        return now.count();
    }

    public int restore() {
        if (!hasSnapshot) {
            return NOTHING;
        }
        now.copyFrom(snapshot);
        past.forget();
        return now.count();
    }

    // ---- the changes themselves, for the calls and for the orders of a text

    /** Every code is below 0 and every other answer of a change is not, so the answer tells whether it was one. */
    private int kept(int answer) {
        if (answer >= 0) {
            past.keepHeld();
        }
        return answer;
    }

    private int refuse(int number, int detail) {
        reasons.start(number, detail);
        return REFUSED;
    }

    private int hangUp(int kind, int wick) {
        if (kind < SWITCH || kind > ALIKE || wick < 1 || wick > MOST_WICK) {
            return BAD;
        }
        int lantern = now.add(kind, wick);
        return lantern == NONE ? refuse(NO_ROOM, MOST_LANTERNS) : lantern;
    }

    private int putWire(int lantern, int place, int from) {
        if (!now.isHung(lantern) || !now.isHung(from)) {
            return NONE;
        }
        if (!isPlace(place)) {
            return BAD;
        }
        if (isPlaceRefused(lantern, place)) {
            return REFUSED;
        }
        int there = now.sourceOf(lantern, place);
        if (there != NO_WIRE) {
            return refuse(PLACE_WIRED, there);
        }
        int between = now.areLoopsAllowed() ? NOTHING : Paths.fewestWires(now, lantern, from);
        if (between >= 0) {
            refuse(CLOSES_LOOP, from);
            reasons.putBehind(LOOP_WIRES, between + 1);
            return REFUSED;
        }
        now.connect(lantern, place, from);
        return now.wiresTo(lantern);
    }

    private int cutWire(int lantern, int place) {
        if (!now.isHung(lantern)) {
            return NONE;
        }
        if (!isPlace(place)) {
            return BAD;
        }
        if (isPlaceRefused(lantern, place)) {
            return REFUSED;
        }
        int from = now.sourceOf(lantern, place);
        if (from == NO_WIRE) {
            return refuse(PLACE_BARE, place);
        }
        now.connect(lantern, place, NO_WIRE);
        return from;
    }

    /** The reasons that wires which are put and wires which are cut have in common. */
    private boolean isPlaceRefused(int lantern, int place) {
        if (now.isSwitch(lantern)) {
            refuse(IS_SWITCH, lantern);
            return true;
        }
        int places = placesOf(now.kindOf(lantern));
        if (place >= places) {
            refuse(NO_PLACE, places);
            return true;
        }
        return false;
    }

    private int setSwitch(int lantern, boolean isOn) {
        if (!now.isHung(lantern)) {
            return NONE;
        }
        if (!now.isSwitch(lantern)) {
            return refuse(IS_GATE, now.kindOf(lantern));
        }
        if (now.isGlowing(lantern) == isOn) {
            return refuse(SET_SO, lantern);
        }
        now.turn(lantern);
        return Integer.bitCount(now.glow());
    }

    private int allowLoops(boolean areAllowed) {
        int inLoops = areAllowed ? 0 : Paths.inLoops(now);
        if (inLoops != 0) {
            refuse(HAS_LOOPS, lowestIn(inLoops));
            reasons.putBehind(LOOPED_COUNT, Integer.bitCount(inLoops));
            return REFUSED;
        }
        int before = now.areLoopsAllowed() ? 1 : 0;
        now.allowLoops(areAllowed);
        return before;
    }

    private int letGoBy(int ticks) {
        if (ticks < 1 || ticks > MOST_TICKS) {
            return BAD;
        }
        int changes = 0;
        for (int t = 0; t < ticks; t++) {
            changes += now.goOn();
        }
        return changes;
    }

    private int carryOutAll() {
        past.hold(now);
        text.toStart();
        int orders = 0;
        while (orders < TEXT_ROOM && text.readNext()) {
            int answer = carryOut();
            if (answer < 0) {
                past.bringBackHeld(now);
                return refuseOrder(orders, answer);
            }
            orders++;
        }
        past.keepHeld();
        return orders;
    }

    private int carryOut() {
        switch (text.word()) {
            case Text.HANG: return hangUp(text.first(), text.second());
            case Text.WIRE: return putWire(text.first(), text.second(), text.third());
            case Text.CUT: return cutWire(text.first(), text.second());
            case Text.SET: return setSwitch(text.first(), text.second() == 1);
            default: return letGoBy(text.first());
        }
    }

    private int refuseOrder(int order, int answer) {
        if (answer == REFUSED) {
            reasons.putAhead(ORDER_FAILS, order);
        } else {
            reasons.start(ORDER_FAILS, order);
            reasons.putBehind(ORDER_CODE, answer);
        }
        return REFUSED;
    }

    private boolean hasTable(int lantern) {
        return !now.isSwitch(lantern) && depths.byWires(now, lantern) >= 0
            && Integer.bitCount(Paths.switchesTo(now, lantern)) <= MOST_TABLE_SWITCHES;
    }

    private void addWires(int lantern) {
        int places = placesOf(now.kindOf(lantern));
        for (int place = 0; place < places; place++) {
            line.add(place == 0 ? '(' : ',');
            int from = now.sourceOf(lantern, place);
            if (from == NO_WIRE) {
                line.add('-');
            } else {
                line.addNumber(from);
            }
        }
        line.add(')');
    }

    private static boolean isPlace(int place) {
        return place >= 0 && place < PLACES;
    }

    private static boolean isIn(int set, int lantern) {
        return ((set >> lantern) & 1) == 1;
    }

    private static int lowestIn(int set) {
        int lowest = 0;
        while (lowest < MOST_LANTERNS && !isIn(set, lowest)) {
            lowest++;
        }
        return lowest;
    }

    private static int placesOf(int kind) {
        switch (kind) {
            case NOT: case ALIKE: return 1;
            case UNLIKE: return 2;
            case AND: case OR: case MOST: return 3;
            default: return 0;
        }
    }

    private static String wordOf(int kind) {
        switch (kind) {
            case NOT: return "not";
            case AND: return "and";
            case OR: return "or";
            case UNLIKE: return "unlike";
            case MOST: return "most";
            case ALIKE: return "alike";
            default: return "switch";
        }
    }

    /** All that changes can change, so that undo and the snapshot copy it whole. */
    private static final class Lanterns {
        private static final int FOUND_AT = 16;
        private static final int FOUND_BITS = 3;
        private static final long GLOW = 0xFFFFL;
        private static final long FOUND = 7L;

        private int count;
        private final int[] kinds = new int[MOST_LANTERNS];
        private final int[] wicks = new int[MOST_LANTERNS];
        private final int[] sources = new int[MOST_LANTERNS * PLACES];
        private final int[] changes = new int[MOST_LANTERNS];
        // The lowest 16 bits tell which lanterns glow; then 3 bits a lantern tell what it found
        // in ticks that still count, the one that is seen next lowest. As one number, states in
        // thought are kept and compared without objects.
        private long state;
        private boolean areLoopsAllowed = true;
        private int ticks;
        private int tickChanges;
        private int sets;

        Lanterns() {
            Arrays.fill(sources, NO_WIRE);
        }

        void copyFrom(Lanterns other) {
            count = other.count;
            System.arraycopy(other.kinds, 0, kinds, 0, MOST_LANTERNS);
            System.arraycopy(other.wicks, 0, wicks, 0, MOST_LANTERNS);
            System.arraycopy(other.sources, 0, sources, 0, MOST_LANTERNS * PLACES);
            System.arraycopy(other.changes, 0, changes, 0, MOST_LANTERNS);
            state = other.state;
            areLoopsAllowed = other.areLoopsAllowed;
            ticks = other.ticks;
            tickChanges = other.tickChanges;
            sets = other.sets;
        }

        int count() {
            return count;
        }

        long state() {
            return state;
        }

        int ticks() {
            return ticks;
        }

        int tickChanges() {
            return tickChanges;
        }

        int sets() {
            return sets;
        }

        boolean areLoopsAllowed() {
            return areLoopsAllowed;
        }

        void allowLoops(boolean areAllowed) {
            areLoopsAllowed = areAllowed;
        }

        boolean isHung(int lantern) {
            return lantern >= 0 && lantern < count && lantern < MOST_LANTERNS;
        }

        int kindOf(int lantern) {
            return isHung(lantern) ? kinds[lantern] : SWITCH;
        }

        int wickOf(int lantern) {
            return isHung(lantern) ? wicks[lantern] : 1;
        }

        int changesOf(int lantern) {
            return isHung(lantern) ? changes[lantern] : 0;
        }

        boolean isSwitch(int lantern) {
            return isHung(lantern) && kinds[lantern] == SWITCH;
        }

        int sourceOf(int lantern, int place) {
            boolean isThere = lantern >= 0 && lantern < MOST_LANTERNS && place >= 0 && place < PLACES;
            return isThere ? sources[lantern * PLACES + place] : NO_WIRE;
        }

        /** The number of the new lantern; NONE if there is no room for one. */
        int add(int kind, int wick) {
            int lantern = count;
            if (lantern < 0 || lantern >= MOST_LANTERNS) {
                return NONE;
            }
            kinds[lantern] = kind;
            wicks[lantern] = wick;
            count = lantern + 1;
            return lantern;
        }

        void connect(int lantern, int place, int from) {
            if (isHung(lantern) && isPlace(place)) {
                sources[lantern * PLACES + place] = from;
            }
        }

        void turn(int lantern) {
            if (isHung(lantern)) {
                state ^= 1L << lantern;
                changes[lantern]++;
                sets++;
            }
        }

        /** Lets one tick go by, and returns how many lanterns it changes. */
        int goOn() {
            long next = behindTick(state);
            int changed = glowIn(state ^ next);
            for (int k = 0; k < MOST_LANTERNS; k++) {
                changes[k] += (changed >> k) & 1;
            }
            int number = Integer.bitCount(changed);
            state = next;
            ticks++;
            tickChanges += number;
            return number;
        }

        long behindTick(long ahead) {
            int glow = glowIn(ahead);
            long behind = 0L;
            for (int k = 0; k < count && k < MOST_LANTERNS; k++) {
                if (kinds[k] == SWITCH) {
                    behind |= ahead & (1L << k);
                } else {
                    // With what it finds now put in last, what comes out first is how it is next.
                    long found = foundIn(ahead, k) | (isFinding(k, glow) ? 1L << (wicks[k] - 1) : 0L);
                    behind |= (found & 1L) << k;
                    behind |= (found >> 1) << (FOUND_AT + FOUND_BITS * k);
                }
            }
            return behind;
        }

        boolean isFinding(int lantern, int glow) {
            if (lantern < 0 || lantern >= MOST_LANTERNS) {
                return false;
            }
            int wired = 0;
            int lit = 0;
            for (int place = 0; place < PLACES; place++) {
                int from = sources[lantern * PLACES + place];
                if (from != NO_WIRE) {
                    wired++;
                    lit += (glow >> from) & 1;
                }
            }
            if (wired == 0) {
                return false;
            }
            switch (kinds[lantern]) {
                case NOT: return lit == 0;
                case AND: return lit == wired;
                case OR: case ALIKE: return lit > 0;
                case UNLIKE: return (lit & 1) == 1;
                case MOST: return 2 * lit > wired;
                default: return false;
            }
        }

        static int glowIn(long state) {
            return (int) (state & GLOW);
        }

        static int foundIn(long state, int lantern) {
            return (int) ((state >>> (FOUND_AT + FOUND_BITS * lantern)) & FOUND);
        }

        int glow() {
            return glowIn(state);
        }

        boolean isGlowing(int lantern) {
            return isIn(glow(), lantern);
        }

        int switches() {
            int found = 0;
            for (int k = 0; k < count; k++) {
                if (isSwitch(k)) {
                    found |= 1 << k;
                }
            }
            return found;
        }

        /** The lanterns from which wires lead to this one. */
        int sourcesOf(int lantern) {
            if (lantern < 0 || lantern >= MOST_LANTERNS) {
                return 0;
            }
            int found = 0;
            for (int place = 0; place < PLACES; place++) {
                int from = sources[lantern * PLACES + place];
                found |= from == NO_WIRE ? 0 : 1 << from;
            }
            return found;
        }

        int wiresTo(int lantern) {
            int found = 0;
            for (int place = 0; place < PLACES; place++) {
                if (sourceOf(lantern, place) != NO_WIRE) {
                    found++;
                }
            }
            return found;
        }

        int wiresFrom(int lantern) {
            int found = 0;
            for (int i = 0; i < MOST_LANTERNS * PLACES; i++) {
                if (sources[i] == lantern) {
                    found++;
                }
            }
            return found;
        }

        int wires() {
            int found = 0;
            for (int k = 0; k < count; k++) {
                found += wiresTo(k);
            }
            return found;
        }

        int changes() {
            int sum = 0;
            for (int k = 0; k < count; k++) {
                sum += changesOf(k);
            }
            return sum;
        }
    }

    /** Which lantern leads to which, as sets of lanterns. */
    private static final class Paths {
        /** The lanterns to which a wire leads from one of the set. */
        private static int wiredFrom(Lanterns lanterns, int set) {
            int found = 0;
            for (int k = 0; k < lanterns.count(); k++) {
                if ((lanterns.sourcesOf(k) & set) != 0) {
                    found |= 1 << k;
                }
            }
            return found;
        }

        static int ledFrom(Lanterns lanterns, int lantern) {
            int found = wiredFrom(lanterns, 1 << lantern);
            for (int round = 0; round < MOST_LANTERNS; round++) {
                int more = found | wiredFrom(lanterns, found);
                if (more == found) {
                    break;
                }
                found = more;
            }
            return found;
        }

        static int inLoops(Lanterns lanterns) {
            int found = 0;
            for (int k = 0; k < lanterns.count(); k++) {
                if (isIn(ledFrom(lanterns, k), k)) {
                    found |= 1 << k;
                }
            }
            return found;
        }

        static int switchesTo(Lanterns lanterns, int lantern) {
            int found = 0;
            for (int k = 0; k < lanterns.count(); k++) {
                if (lanterns.isSwitch(k) && isIn(ledFrom(lanterns, k), lantern)) {
                    found |= 1 << k;
                }
            }
            return found;
        }

        /** How many wires a way needs at least, 0 to the same lantern; NOTHING without a way. */
        static int fewestWires(Lanterns lanterns, int start, int end) {
            int found = 1 << start;
            for (int wires = 0; wires < MOST_LANTERNS; wires++) {
                if (isIn(found, end)) {
                    return wires;
                }
                found |= wiredFrom(lanterns, found);
            }
            return NOTHING;
        }
    }

    /** How deep lanterns are, in two ways that share nothing but the row they write to. */
    private static final class Depths {
        private static final int UNKNOWN = -1;

        private final int[] known = new int[MOST_LANTERNS];

        int byWires(Lanterns lanterns, int lantern) {
            Arrays.fill(known, UNKNOWN);
            return below(lanterns, lantern, known, 0);
        }

        private static int below(Lanterns lanterns, int lantern, int[] known, int level) {
            if (!lanterns.isHung(lantern) || level > MOST_LANTERNS) {
                return NOTHING;
            }
            if (known[lantern] != UNKNOWN) {
                return known[lantern];
            }
            // Told ahead of the look at its wires: who comes back here has gone round a loop.
            known[lantern] = NOTHING;
            int deepest = 0;
            for (int place = 0; place < PLACES; place++) {
                int from = lanterns.sourceOf(lantern, place);
                int depth = from == NO_WIRE ? 0 : below(lanterns, from, known, level + 1);
                if (depth < 0) {
                    return NOTHING;
                }
                deepest = Math.max(deepest, depth);
            }
            known[lantern] = ownDepth(lanterns, lantern, deepest);
            return known[lantern];
        }

        private static int ownDepth(Lanterns lanterns, int lantern, int deepest) {
            return lanterns.isSwitch(lantern) ? 0 : deepest + lanterns.wickOf(lantern);
        }

        int byRounds(Lanterns lanterns, int lantern) {
            Arrays.fill(known, UNKNOWN);
            for (int round = 0; round < MOST_LANTERNS; round++) {
                lookAtAll(lanterns);
            }
            boolean isKnown = lanterns.isHung(lantern) && known[lantern] != UNKNOWN;
            return isKnown ? known[lantern] : NOTHING;
        }

        private void lookAtAll(Lanterns lanterns) {
            for (int k = 0; k < lanterns.count() && k < MOST_LANTERNS; k++) {
                int deepest = deepestSource(lanterns, k);
                if (deepest != UNKNOWN) {
                    known[k] = ownDepth(lanterns, k, deepest);
                }
            }
        }

        private int deepestSource(Lanterns lanterns, int lantern) {
            int deepest = 0;
            for (int place = 0; place < PLACES; place++) {
                int from = lanterns.sourceOf(lantern, place);
                if (lanterns.isHung(from)) {
                    if (known[from] == UNKNOWN) {
                        return UNKNOWN;
                    }
                    deepest = Math.max(deepest, known[from]);
                }
            }
            return deepest;
        }

        int greatest(Lanterns lanterns) {
            Arrays.fill(known, UNKNOWN);
            int found = 0;
            for (int k = 0; k < lanterns.count(); k++) {
                found = Math.max(found, below(lanterns, k, known, 0));
            }
            return found;
        }
    }

    /** What comes if only ticks go by, without letting them go by. */
    private static final class Foresight {
        // The kept tick is at 2^k - 1, so one at 255 sees all that repeats within 256 ticks by 511.
        private static final int MOST_TICKS_GOING_ON = 2 * MOST_TICKS_AHEAD;

        private final long[] seen = new long[MOST_TICKS_AHEAD + 1];

        int ticksToSettle(Lanterns lanterns) {
            long state = lanterns.state();
            for (int t = 0; t <= MOST_TICKS_AHEAD; t++) {
                long next = lanterns.behindTick(state);
                if (next == state) {
                    return t;
                }
                state = next;
            }
            return NOTHING;
        }

        int periodByKeeping(Lanterns lanterns) {
            seen[0] = lanterns.state();
            for (int t = 1; t <= MOST_TICKS_AHEAD; t++) {
                seen[t] = lanterns.behindTick(seen[t - 1]);
                for (int earlier = t - 1; earlier >= 0; earlier--) {
                    if (seen[earlier] == seen[t]) {
                        return t - earlier;
                    }
                }
            }
            return NOTHING;
        }

        int periodByGoingOn(Lanterns lanterns) {
            long kept = lanterns.state();
            long state = kept;
            int since = 0;
            int room = 1;
            for (int t = 0; t < MOST_TICKS_GOING_ON; t++) {
                state = lanterns.behindTick(state);
                since++;
                if (state == kept) {
                    return isSeenInTime(lanterns, since) ? since : NOTHING;
                }
                if (since == room) {
                    kept = state;
                    since = 0;
                    room *= 2;
                }
            }
            return NOTHING;
        }

        /** Whether a period that was found late shows within the ticks that count. */
        private static boolean isSeenInTime(Lanterns lanterns, int period) {
            long earlier = lanterns.state();
            long state = earlier;
            for (int t = 1; t <= MOST_TICKS_AHEAD; t++) {
                state = lanterns.behindTick(state);
                if (t > period) {
                    earlier = lanterns.behindTick(earlier);
                }
                if (t >= period && state == earlier) {
                    return true;
                }
            }
            return false;
        }

        int flickersOf(Lanterns lanterns, int gate, int by) {
            long start = lanterns.state();
            if (lanterns.behindTick(start) != start) {
                return NOTHING;
            }
            long state = start ^ (1L << by);
            int changes = 0;
            for (int t = 0; t <= MOST_TICKS_AHEAD; t++) {
                long next = lanterns.behindTick(state);
                if (next == state) {
                    return changes - (int) (((start ^ state) >> gate) & 1L);
                }
                changes += (int) (((state ^ next) >> gate) & 1L);
                state = next;
            }
            return NOTHING;
        }
    }

    /** The tables of gates that have one. */
    private static final class Tables {
        static int byFinding(Lanterns lanterns, int gate) {
            int switches = Paths.switchesTo(lanterns, gate);
            int rows = 1 << Integer.bitCount(switches);
            int found = 0;
            for (int row = 0; row < rows; row++) {
                if (isGlowingAtLast(lanterns, gate, spread(row, switches))) {
                    found |= 1 << row;
                }
            }
            return found;
        }

        private static boolean isGlowingAtLast(Lanterns lanterns, int gate, int switchGlow) {
            int glow = switchGlow;
            int known = lanterns.switches();
            for (int round = 0; round < MOST_LANTERNS && !isIn(known, gate); round++) {
                for (int k = 0; k < lanterns.count(); k++) {
                    boolean isReady = (lanterns.sourcesOf(k) & ~known) == 0;
                    if (isReady && !isIn(known, k)) {
                        known |= 1 << k;
                        glow |= lanterns.isFinding(k, glow) ? 1 << k : 0;
                    }
                }
            }
            return isIn(glow, gate);
        }

        static int byTicks(Lanterns lanterns, int gate, int depth) {
            int switches = Paths.switchesTo(lanterns, gate);
            int rows = 1 << Integer.bitCount(switches);
            long others = lanterns.state() & ~(long) switches;
            int found = 0;
            for (int row = 0; row < rows; row++) {
                long state = others | spread(row, switches);
                // What is around the gate may never settle, but behind its depth it does itself.
                for (int t = 0; t < depth; t++) {
                    state = lanterns.behindTick(state);
                }
                found |= (int) ((state >> gate) & 1L) << row;
            }
            return found;
        }

        /** The bits of a row, each at the number of its switch. */
        private static int spread(int row, int switches) {
            int glow = 0;
            int bit = 0;
            for (int k = 0; k < MOST_LANTERNS; k++) {
                if (isIn(switches, k)) {
                    glow |= ((row >> bit) & 1) << k;
                    bit++;
                }
            }
            return glow;
        }
    }

    /** The states that undo brings back, in a ring with a place more for the one held during a change. */
    private static final class Past {
        private final Lanterns[] ring = new Lanterns[UNDOABLE + 1];
        private int top;
        private int undoable;

        Past() {
            for (int i = 0; i <= UNDOABLE; i++) {
                ring[i] = new Lanterns();
            }
        }

        int undoable() {
            return undoable;
        }

        private Lanterns atTop() {
            return top >= 0 && top <= UNDOABLE ? ring[top] : ring[0];
        }

        void hold(Lanterns now) {
            atTop().copyFrom(now);
        }

        void bringBackHeld(Lanterns now) {
            now.copyFrom(atTop());
        }

        void keepHeld() {
            top = top < UNDOABLE ? top + 1 : 0;
            undoable = Math.min(undoable + 1, UNDOABLE);
        }

        void bringBackLatest(Lanterns now) {
            top = top > 0 ? top - 1 : UNDOABLE;
            undoable--;
            now.copyFrom(atTop());
        }

        void forget() {
            undoable = 0;
        }
    }

    /** The text, read sign by sign; where reading stops short is its fault position. */
    private static final class Text {
        static final int HANG = 0;
        static final int WIRE = 1;
        static final int CUT = 2;
        static final int SET = 3;
        static final int TICK = 4;

        private static final int LOWEST_CODE = 32;
        private static final int HIGHEST_CODE = 126;

        private final char[] signs = new char[TEXT_ROOM];
        private int length;
        private int at;
        private int word;
        private int first;
        private int second;
        private int third;
        private int number;

        int length() {
            return length;
        }

        int position() {
            return at;
        }

        int word() {
            return word;
        }

        int first() {
            return first;
        }

        int second() {
            return second;
        }

        int third() {
            return third;
        }

        int add(int code) {
            if (code < LOWEST_CODE || code > HIGHEST_CODE) {
                return BAD;
            }
            if (length < 0 || length >= TEXT_ROOM) {
                return FULL;
            }
            signs[length] = (char) code;
            length++;
            return length;
        }

        void empty() {
            length = 0;
        }

        void toStart() {
            at = 0;
        }

        boolean isRight() {
            toStart();
            for (int order = 0; order < TEXT_ROOM; order++) {
                if (!readOrder()) {
                    return false;
                }
                if (at == length) {
                    return true;
                }
                if (!isRead(';')) {
                    return false;
                }
            }
            return false;
        }

        /** Reads the next order of a right text; false behind the last one. */
        boolean readNext() {
            if (at > 0 && !isRead(';')) {
                return false;
            }
            return readOrder();
        }

        private boolean readOrder() {
            if (isRead('h')) {
                word = HANG;
                return areRead("ang ") && readKindAndWick();
            }
            if (isRead('w')) {
                word = WIRE;
                return areRead("ire ") && readLanternAndPlace() && readFrom();
            }
            if (isRead('c')) {
                word = CUT;
                return areRead("ut ") && readLanternAndPlace();
            }
            if (isRead('s')) {
                word = SET;
                return areRead("et ") && readLanternAndGlow();
            }
            word = TICK;
            return areRead("tick ") && readTicks();
        }

        private boolean readKindAndWick() {
            if (!isDigitRead()) {
                return false;
            }
            first = number;
            if (!isRead('*') || !isDigitRead()) {
                return false;
            }
            second = number;
            return true;
        }

        private boolean readLanternAndPlace() {
            if (!areDigitsRead()) {
                return false;
            }
            first = number;
            if (!isRead('.') || !isDigitRead()) {
                return false;
            }
            second = number;
            return true;
        }

        private boolean readFrom() {
            if (!isRead('<') || !areDigitsRead()) {
                return false;
            }
            third = number;
            return true;
        }

        private boolean readLanternAndGlow() {
            if (!areDigitsRead()) {
                return false;
            }
            first = number;
            second = isRead('+') ? 1 : 0;
            return second == 1 || isRead('-');
        }

        private boolean readTicks() {
            if (!areDigitsRead()) {
                return false;
            }
            first = number;
            return true;
        }

        private boolean isRead(char due) {
            if (at < 0 || at >= length || at >= TEXT_ROOM || signs[at] != due) {
                return false;
            }
            at++;
            return true;
        }

        private boolean areRead(String due) {
            for (int i = 0; i < due.length(); i++) {
                if (!isRead(due.charAt(i))) {
                    return false;
                }
            }
            return true;
        }

        private boolean isDigitRead() {
            if (at < 0 || at >= length || at >= TEXT_ROOM || signs[at] < '0' || signs[at] > '9') {
                return false;
            }
            number = signs[at] - '0';
            at++;
            return true;
        }

        /** Reads one digit or two. */
        private boolean areDigitsRead() {
            if (!isDigitRead()) {
                return false;
            }
            int tens = number;
            if (isDigitRead()) {
                number += 10 * tens;
            }
            return true;
        }
    }

    /** The line that was written last. */
    private static final class Line {
        private final char[] signs = new char[LINE_ROOM];
        private int length;

        int length() {
            return length;
        }

        void empty() {
            length = 0;
        }

        void add(char sign) {
            if (length >= 0 && length < LINE_ROOM) {
                signs[length] = sign;
                length++;
            }
        }

        void addNumber(int number) {
            if (number >= 10) {
                add((char) ('0' + number / 10));
            }
            add((char) ('0' + number % 10));
        }

        void addWord(String word) {
            for (int i = 0; i < word.length(); i++) {
                add(word.charAt(i));
            }
        }

        int codeAt(int index) {
            return index >= 0 && index < length && index < LINE_ROOM ? signs[index] : NONE;
        }
    }

    /** The latest reason and those that stand behind it. */
    private static final class Reasons {
        // An order, the loop that it would close, and the wires of that loop.
        private static final int MOST_REASONS = 3;

        private final int[] numbers = new int[MOST_REASONS];
        private final int[] details = new int[MOST_REASONS];
        private int count;

        void start(int number, int detail) {
            numbers[0] = number;
            details[0] = detail;
            count = 1;
        }

        void putBehind(int number, int detail) {
            if (count >= 0 && count < MOST_REASONS) {
                numbers[count] = number;
                details[count] = detail;
                count++;
            }
        }

        void putAhead(int number, int detail) {
            int moved = Math.min(count, MOST_REASONS - 1);
            for (int i = moved; i > 0; i--) {
                numbers[i] = numbers[i - 1];
                details[i] = details[i - 1];
            }
            numbers[0] = number;
            details[0] = detail;
            count = moved + 1;
        }

        int numberAt(int depth) {
            return isKept(depth) ? numbers[depth] : NOTHING;
        }

        int detailAt(int depth) {
            return isKept(depth) ? details[depth] : NOTHING;
        }

        private boolean isKept(int depth) {
            return depth >= 0 && depth < count && depth < MOST_REASONS;
        }
    }
}
