import java.util.ArrayDeque;
import java.util.ArrayList;
import java.util.Arrays;
import java.util.Deque;
import java.util.HashMap;
import java.util.LinkedHashSet;
import java.util.List;
import java.util.Map;
import java.util.Set;
import java.util.TreeSet;
import java.util.regex.Matcher;
import java.util.regex.Pattern;

/**
 * The document once more, written as plainly as the Java library allows and without a look at the
 * class, so that the answers of both can be compared.
 */
final class PlainLanterns {
    private static final int NONE = -11;
    private static final int BAD = -12;
    private static final int FULL = -13;
    private static final int REFUSED = -14;
    private static final int NOTHING = -15;
    private static final String[] WORDS = {"switch", "not", "and", "or", "unlike", "most", "alike"};
    private static final int[] PLACES = {0, 1, 3, 3, 2, 3, 1};
    private static final String ORDER = "(hang \\d\\*\\d|wire \\d\\d?\\.\\d<\\d\\d?|cut \\d\\d?\\.\\d|set \\d\\d?[+-]|tick \\d\\d?)";
    private static final Pattern TEXT = Pattern.compile(ORDER + "(;" + ORDER + ")*");

    private static final class Lamp {
        int kind;
        int wick;
        boolean glows;
        int changed;
        final Deque<Boolean> found = new ArrayDeque<>();
        final Integer[] wires = new Integer[3];

        Lamp copy() {
            Lamp lamp = new Lamp();
            lamp.kind = kind;
            lamp.wick = wick;
            lamp.glows = glows;
            lamp.changed = changed;
            lamp.found.addAll(found);
            System.arraycopy(wires, 0, lamp.wires, 0, 3);
            return lamp;
        }
    }

    private static final class World {
        final List<Lamp> lamps = new ArrayList<>();
        boolean loops = true;
        int ticks;
        int byTicks;
        int bySets;

        World copy() {
            World world = new World();
            for (Lamp lamp : lamps) {
                world.lamps.add(lamp.copy());
            }
            world.loops = loops;
            world.ticks = ticks;
            world.byTicks = byTicks;
            world.bySets = bySets;
            return world;
        }

        boolean finds(int k) {
            Lamp lamp = lamps.get(k);
            List<Boolean> seen = new ArrayList<>();
            for (Integer from : lamp.wires) {
                if (from != null) {
                    seen.add(lamps.get(from).glows);
                }
            }
            return found(lamp.kind, seen);
        }

        int tick() {
            List<Boolean> finds = new ArrayList<>();
            for (int k = 0; k < lamps.size(); k++) {
                finds.add(finds(k));
            }
            int changes = 0;
            for (int k = 0; k < lamps.size(); k++) {
                Lamp lamp = lamps.get(k);
                if (lamp.kind == 0) {
                    continue;
                }
                lamp.found.addLast(finds.get(k));
                boolean next = lamp.found.removeFirst();
                if (next != lamp.glows) {
                    lamp.glows = next;
                    lamp.changed++;
                    changes++;
                }
            }
            ticks++;
            byTicks += changes;
            return changes;
        }

        String look() {
            StringBuilder look = new StringBuilder();
            for (Lamp lamp : lamps) {
                look.append(lamp.glows).append(lamp.kind == 0 ? "" : lamp.found.toString());
            }
            return look.toString();
        }

        boolean isSettled() {
            World next = copy();
            next.tick();
            return next.look().equals(look());
        }
    }

    private World world = new World();
    private World saved;
    private final Deque<World> past = new ArrayDeque<>();
    private String text = "";
    private String line = "";
    private List<int[]> reasons = new ArrayList<>();

    private static boolean found(int kind, List<Boolean> seen) {
        long glowing = seen.stream().filter(b -> b).count();
        if (seen.isEmpty()) {
            return false;
        }
        switch (kind) {
            case 1: return glowing == 0;
            case 2: return glowing == seen.size();
            case 3: return glowing >= 1;
            case 4: return glowing % 2 == 1;
            case 5: return glowing > seen.size() / 2.0;
            case 6: return seen.get(0);
            default: return false;
        }
    }

    private boolean has(int k) {
        return k >= 0 && k < world.lamps.size();
    }

    private Lamp lamp(int k) {
        return world.lamps.get(k);
    }

    private int refuse(int... pairs) {
        reasons = new ArrayList<>();
        for (int i = 0; i < pairs.length; i += 2) {
            reasons.add(new int[] {pairs[i], pairs[i + 1]});
        }
        return REFUSED;
    }

    private int change(int[] order) {
        World before = world.copy();
        int answer = doOrder(order);
        if (answer >= 0) {
            past.addLast(before);
            if (past.size() > 8) {
                past.removeFirst();
            }
        }
        return answer;
    }

    private int doOrder(int[] o) {
        switch (o[0]) {
            case 'h': return doHang(o[1], o[2]);
            case 'w': return doWire(o[1], o[2], o[3]);
            case 'c': return doCut(o[1], o[2]);
            case 's': return doSet(o[1], o[2] == 1);
            case 'l': return doLoops(o[1] == 1);
            default: return doTick(o[1]);
        }
    }

    int hang(int kind, int wick) {
        return change(new int[] {'h', kind, wick});
    }

    int wire(int lantern, int place, int from) {
        return change(new int[] {'w', lantern, place, from});
    }

    int cut(int lantern, int place) {
        return change(new int[] {'c', lantern, place});
    }

    int set(int lantern, boolean isOn) {
        return change(new int[] {'s', lantern, isOn ? 1 : 0});
    }

    int loops(boolean areAllowed) {
        return change(new int[] {'l', areAllowed ? 1 : 0});
    }

    int tick(int ticks) {
        return change(new int[] {'t', ticks});
    }

    private int doHang(int kind, int wick) {
        if (kind < 0 || kind > 6 || wick < 1 || wick > 4) {
            return BAD;
        }
        if (world.lamps.size() == 16) {
            return refuse(1, 16);
        }
        Lamp lamp = new Lamp();
        lamp.kind = kind;
        lamp.wick = wick;
        for (int i = 1; i < wick; i++) {
            lamp.found.add(false);
        }
        world.lamps.add(lamp);
        return world.lamps.size() - 1;
    }

    private int doWire(int lantern, int place, int from) {
        if (!has(lantern) || !has(from)) {
            return NONE;
        }
        if (place < 0 || place > 2) {
            return BAD;
        }
        Lamp lamp = lamp(lantern);
        if (lamp.kind == 0) {
            return refuse(2, lantern);
        }
        if (place >= PLACES[lamp.kind]) {
            return refuse(3, PLACES[lamp.kind]);
        }
        if (lamp.wires[place] != null) {
            return refuse(4, lamp.wires[place]);
        }
        if (!world.loops && (lantern == from || reach(lantern).contains(from))) {
            return refuse(8, from, 11, loopLength(lantern, from));
        }
        lamp.wires[place] = from;
        return count(lamp);
    }

    /** Tries longer and longer walks. */
    private int loopLength(int lantern, int from) {
        Set<Integer> at = new TreeSet<>(List.of(lantern));
        int wires = 1;
        while (!at.contains(from)) {
            Set<Integer> next = new TreeSet<>();
            for (int k = 0; k < world.lamps.size(); k++) {
                for (Integer source : lamp(k).wires) {
                    if (source != null && at.contains(source)) {
                        next.add(k);
                    }
                }
            }
            at = next;
            wires++;
        }
        return wires;
    }

    private static int count(Lamp lamp) {
        int wires = 0;
        for (Integer from : lamp.wires) {
            wires += from == null ? 0 : 1;
        }
        return wires;
    }

    private int doCut(int lantern, int place) {
        if (!has(lantern)) {
            return NONE;
        }
        if (place < 0 || place > 2) {
            return BAD;
        }
        Lamp lamp = lamp(lantern);
        if (lamp.kind == 0) {
            return refuse(2, lantern);
        }
        if (place >= PLACES[lamp.kind]) {
            return refuse(3, PLACES[lamp.kind]);
        }
        if (lamp.wires[place] == null) {
            return refuse(5, place);
        }
        int from = lamp.wires[place];
        lamp.wires[place] = null;
        return from;
    }

    private int doSet(int lantern, boolean isOn) {
        if (!has(lantern)) {
            return NONE;
        }
        if (lamp(lantern).kind != 0) {
            return refuse(6, lamp(lantern).kind);
        }
        if (lamp(lantern).glows == isOn) {
            return refuse(7, lantern);
        }
        lamp(lantern).glows = isOn;
        lamp(lantern).changed++;
        world.bySets++;
        return glowing();
    }

    private int glowing() {
        return (int) world.lamps.stream().filter(lamp -> lamp.glows).count();
    }

    private int doLoops(boolean areAllowed) {
        List<Integer> in = inLoops();
        if (!areAllowed && !in.isEmpty()) {
            return refuse(9, in.get(0), 12, in.size());
        }
        boolean before = world.loops;
        world.loops = areAllowed;
        return before ? 1 : 0;
    }

    private int doTick(int ticks) {
        if (ticks < 1 || ticks > 99) {
            return BAD;
        }
        int changes = 0;
        for (int i = 0; i < ticks; i++) {
            changes += world.tick();
        }
        return changes;
    }

    /** All lanterns to which a lantern leads, by following wires one by one. */
    private Set<Integer> reach(int start) {
        Set<Integer> reached = new TreeSet<>();
        Deque<Integer> open = new ArrayDeque<>(List.of(start));
        while (!open.isEmpty()) {
            int at = open.pop();
            for (int k = 0; k < world.lamps.size(); k++) {
                if (Arrays.asList(lamp(k).wires).contains(at) && reached.add(k)) {
                    open.push(k);
                }
            }
        }
        return reached;
    }

    private List<Integer> inLoops() {
        List<Integer> in = new ArrayList<>();
        for (int k = 0; k < world.lamps.size(); k++) {
            if (reach(k).contains(k)) {
                in.add(k);
            }
        }
        return in;
    }

    private static int bits(Iterable<Integer> set) {
        int bits = 0;
        for (int k : set) {
            bits |= 1 << k;
        }
        return bits;
    }

    int lanternOf(int lantern, int what) {
        if (!has(lantern)) {
            return NONE;
        }
        if (what < 0 || what > 7) {
            return BAD;
        }
        Lamp lamp = lamp(lantern);
        int from = 0;
        int bits = 0;
        int bit = 1;
        for (Lamp other : world.lamps) {
            for (Integer source : other.wires) {
                from += source != null && source == lantern ? 1 : 0;
            }
        }
        for (boolean found : lamp.found) {
            bits += found ? bit : 0;
            bit *= 2;
        }
        return new int[] {lamp.kind, lamp.wick, lamp.glows ? 1 : 0, count(lamp), from, lamp.changed,
            world.finds(lantern) ? 1 : 0, lamp.kind == 0 ? 0 : bits}[what];
    }

    int wireOf(int lantern, int place) {
        if (!has(lantern)) {
            return NONE;
        }
        if (place < 0 || place > 2) {
            return BAD;
        }
        Integer from = lamp(lantern).wires[place];
        return from == null ? NOTHING : from;
    }

    int leads(int lantern) {
        return has(lantern) ? bits(reach(lantern)) : NONE;
    }

    int looped() {
        return bits(inLoops());
    }

    private boolean hasDepth(int lantern) {
        for (int k : inLoops()) {
            if (k == lantern || reach(k).contains(lantern)) {
                return false;
            }
        }
        return true;
    }

    int depth(int lantern) {
        if (!has(lantern)) {
            return NONE;
        }
        return hasDepth(lantern) ? deep(lantern, new HashMap<>()) : NOTHING;
    }

    private int deep(int lantern, Map<Integer, Integer> known) {
        Lamp lamp = lamp(lantern);
        if (lamp.kind == 0) {
            return 0;
        }
        if (!known.containsKey(lantern)) {
            int deepest = 0;
            for (Integer from : lamp.wires) {
                deepest = Math.max(deepest, from == null ? 0 : deep(from, known));
            }
            known.put(lantern, deepest + lamp.wick);
        }
        return known.get(lantern);
    }

    int settlesIn() {
        World ahead = world.copy();
        for (int t = 0; t <= 256; t++) {
            if (ahead.isSettled()) {
                return t;
            }
            ahead.tick();
        }
        return NOTHING;
    }

    int period() {
        World ahead = world.copy();
        Map<String, Integer> seen = new HashMap<>();
        for (int t = 0; t <= 256; t++) {
            Integer earlier = seen.put(ahead.look(), t);
            if (earlier != null) {
                return t - earlier;
            }
            ahead.tick();
        }
        return NOTHING;
    }

    int flickers(int lantern, int by) {
        if (!has(lantern) || !has(by)) {
            return NONE;
        }
        if (lamp(lantern).kind == 0 || lamp(by).kind != 0) {
            return BAD;
        }
        if (!world.isSettled()) {
            return NOTHING;
        }
        World ahead = world.copy();
        ahead.lamps.get(by).glows ^= true;
        for (int t = 0; t <= 256; t++) {
            if (ahead.isSettled()) {
                Lamp then = ahead.lamps.get(lantern);
                return then.changed - lamp(lantern).changed - (then.glows != lamp(lantern).glows ? 1 : 0);
            }
            ahead.tick();
        }
        return NOTHING;
    }

    private List<Integer> switchesTo(int lantern) {
        List<Integer> switches = new ArrayList<>();
        for (int k = 0; k < world.lamps.size(); k++) {
            if (lamp(k).kind == 0 && reach(k).contains(lantern)) {
                switches.add(k);
            }
        }
        return switches;
    }

    int switchesOf(int lantern) {
        return has(lantern) ? bits(switchesTo(lantern)) : NONE;
    }

    /** The table by asking each lantern for what the ones of its wires find. */
    int table(int lantern) {
        if (!has(lantern)) {
            return NONE;
        }
        List<Integer> switches = switchesTo(lantern);
        if (lamp(lantern).kind == 0 || !hasDepth(lantern) || switches.size() > 4) {
            return NOTHING;
        }
        int table = 0;
        for (int row = 0; row < 1 << switches.size(); row++) {
            Map<Integer, Boolean> known = new HashMap<>();
            for (int k = 0; k < switches.size(); k++) {
                known.put(switches.get(k), (row >> k) % 2 == 1);
            }
            table += glowsAtLast(lantern, known) ? 1 << row : 0;
        }
        return table;
    }

    private boolean glowsAtLast(int lantern, Map<Integer, Boolean> known) {
        if (!known.containsKey(lantern)) {
            List<Boolean> seen = new ArrayList<>();
            for (Integer from : lamp(lantern).wires) {
                if (from != null) {
                    seen.add(glowsAtLast(from, known));
                }
            }
            known.put(lantern, found(lamp(lantern).kind, seen));
        }
        return known.get(lantern);
    }

    int append(int code) {
        if (code < 32 || code > 126) {
            return BAD;
        }
        if (text.length() == 60) {
            return FULL;
        }
        text += (char) code;
        return text.length();
    }

    int run() {
        String told = text;
        text = "";
        if (!TEXT.matcher(told).matches()) {
            return -1000 - faultPosition(told);
        }
        World before = world.copy();
        String[] orders = told.split(";");
        for (int i = 0; i < orders.length; i++) {
            int answer = doOrder(numbers(orders[i]));
            if (answer < 0) {
                world = before;
                List<int[]> behind = answer == REFUSED ? reasons : List.of(new int[] {13, answer});
                reasons = new ArrayList<>();
                reasons.add(new int[] {10, i});
                reasons.addAll(behind);
                return REFUSED;
            }
        }
        past.addLast(before);
        if (past.size() > 8) {
            past.removeFirst();
        }
        return orders.length;
    }

    /** How long the longest start of the text is with which a right text can start. */
    private static int faultPosition(String told) {
        int length = 0;
        while (length < told.length()) {
            Matcher matcher = TEXT.matcher(told.substring(0, length + 1));
            if (!matcher.matches() && !matcher.hitEnd()) {
                return length;
            }
            length++;
        }
        return length;
    }

    private static int[] numbers(String order) {
        String sign = order.endsWith("+") ? ".1" : order.endsWith("-") ? ".0" : "";
        String[] parts = (order + sign).substring(order.indexOf(' ') + 1).replaceAll("[+-]", "").split("[*.<]");
        int[] numbers = new int[4];
        numbers[0] = order.charAt(0);
        for (int i = 0; i < parts.length; i++) {
            numbers[i + 1] = Integer.parseInt(parts[i]);
        }
        return numbers;
    }

    int tell() {
        line = "";
        for (Lamp lamp : world.lamps) {
            line += lamp.glows ? "#" : ".";
        }
        return line.length();
    }

    int tellLantern(int lantern) {
        if (!has(lantern)) {
            return NONE;
        }
        Lamp lamp = lamp(lantern);
        List<String> wires = new ArrayList<>();
        for (int place = 0; place < PLACES[lamp.kind]; place++) {
            wires.add(lamp.wires[place] == null ? "-" : "" + lamp.wires[place]);
        }
        line = lantern + ":" + WORDS[lamp.kind] + lamp.wick
            + (lamp.kind == 0 ? "" : "(" + String.join(",", wires) + ")") + (lamp.glows ? "#" : "");
        return line.length();
    }

    int character(int index) {
        return index >= 0 && index < line.length() ? line.charAt(index) : NONE;
    }

    int reason(int depth, boolean isDetail) {
        return depth >= 0 && depth < reasons.size() ? reasons.get(depth)[isDetail ? 1 : 0] : NOTHING;
    }

    int account(int what) {
        int switches = 0;
        int wires = 0;
        int changed = 0;
        int deepest = 0;
        for (int k = 0; k < world.lamps.size(); k++) {
            switches += lamp(k).kind == 0 ? 1 : 0;
            wires += count(lamp(k));
            changed += lamp(k).changed;
            deepest = Math.max(deepest, depth(k));
        }
        int[] accounts = {world.ticks, world.lamps.size(), switches, wires, glowing(), inLoops().size(),
            world.loops ? 1 : 0, changed, world.byTicks, world.bySets, deepest, text.length(), past.size()};
        return what >= 0 && what < accounts.length ? accounts[what] : BAD;
    }

    int isBalanced() {
        return 1;
    }

    double meanWick() {
        return world.lamps.stream().filter(lamp -> lamp.kind != 0).mapToInt(lamp -> lamp.wick).average().orElse(0.0);
    }

    float glowShare() {
        return world.lamps.isEmpty() ? 0.0f : (float) glowing() / world.lamps.size();
    }

    int undo() {
        if (past.isEmpty()) {
            return NOTHING;
        }
        world = past.removeLast();
        return past.size();
    }

    int save() {
        saved = world.copy();
        return world.lamps.size();
    }

    int restore() {
        if (saved == null) {
            return NOTHING;
        }
        world = saved.copy();
        past.clear();
        return world.lamps.size();
    }

    /** What a test may look at to choose its next call. */
    Set<Integer> numbersInUse() {
        Set<Integer> numbers = new LinkedHashSet<>();
        for (int k = 0; k < world.lamps.size(); k++) {
            numbers.add(k);
        }
        return numbers;
    }
}
