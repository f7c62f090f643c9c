import java.util.ArrayDeque;
import java.util.ArrayList;
import java.util.Deque;
import java.util.List;
import java.util.regex.Matcher;
import java.util.regex.Pattern;

/**
 * The document once more, written for likeness to its words and not for speed: the core is a list of single units,
 * every state is copied whole, the depth that is told is searched for from the front down, texts are read by patterns.
 */
final class MelterModel {
    private static final int INVALID = -1;
    private static final int NOT_POSSIBLE = -2;
    private static final int LIMIT = -3;
    private static final int NOT_FOUND = -4;
    private static final int[][] RANGES = {
        {0, 200}, {10, 200}, {100, 20000}, {1, 500}, {50, 5000}, {5, 200}, {50, 5000}, {0, 50}};

    private record Segment(int kind, int length, int density, int more) {
        boolean crack() {
            return kind == 1;
        }

        boolean possible() {
            boolean longEnough = length >= 1 && length <= 300;
            boolean dense = density >= 60 && density <= 92;
            return switch (kind) {
                case 0 -> longEnough && dense && more >= 0 && more <= 50;
                case 1 -> longEnough && density == 0 && more == 0;
                case 2 -> longEnough && dense && more >= 1 && more <= 100;
                default -> false;
            };
        }
    }

    private record Vial(int water, int depth, int ticks) { }

    private static final class Line implements Cloneable {
        boolean stuck;
        int dirt;
        int gap;
        int drawn;
        int wasted;

        Line twin() {
            try {
                return (Line) clone();
            } catch (CloneNotSupportedException e) {
                throw new IllegalStateException(e);
            }
        }
    }

    private static final class State {
        List<Segment> segments = new ArrayList<>();
        int[] settings = {100, 50, 2000, 60, 500, 40, 500, 5};
        List<Vial> vials = new ArrayList<>();
        Line[] lines = {new Line(), new Line(), new Line(), new Line()};
        int front;
        long store;
        long stock;
        long gas;
        long dirt;
        int ticks;
        int reason;
        int stopped;
        int told;
        int present;
        long[] accounts = new long[7];

        State twin() {
            State s = new State();
            s.segments = new ArrayList<>(segments);
            s.settings = settings.clone();
            s.vials = new ArrayList<>(vials);
            for (int i = 0; i < 4; i++) {
                s.lines[i] = lines[i].twin();
            }
            s.front = front;
            s.store = store;
            s.stock = stock;
            s.gas = gas;
            s.dirt = dirt;
            s.ticks = ticks;
            s.reason = reason;
            s.stopped = stopped;
            s.told = told;
            s.present = present;
            s.accounts = accounts.clone();
            return s;
        }

        /** One entry for each unit of depth: its segment. */
        List<Integer> units() {
            List<Integer> units = new ArrayList<>();
            for (int i = 0; i < segments.size(); i++) {
                for (int k = 0; k < segments.get(i).length; k++) {
                    units.add(i);
                }
            }
            return units;
        }

        int lower(int segment) {
            int depth = 0;
            for (int i = 0; i < segment; i++) {
                depth += segments.get(i).length;
            }
            return depth;
        }

        long stuck() {
            long n = 0;
            for (Line l : lines) {
                n += l.stuck ? 1 : 0;
            }
            return n;
        }
    }

    private State s = new State();
    private final Deque<State> history = new ArrayDeque<>();
    private String text = "";

    private void record() {
        history.addLast(s.twin());
        if (history.size() == 6) {
            history.removeFirst();
        }
    }

    private static int water(State s, List<Integer> units, int depth) {
        int water = 0;
        for (int d = 0; d < depth; d++) {
            water += s.segments.get(units.get(d)).density;
        }
        return water;
    }

    private static void tick(State s, List<Integer> units) {
        int top = units.size();
        long limit = s.settings[2];
        s.ticks++;
        s.reason = s.front == top ? 1 : s.stuck() == 4 ? 2 : s.stock >= limit ? 3 : 0;
        if (s.reason > 0) {
            s.stopped++;
        } else {
            s.store += s.settings[0];
            melt(s, units, limit);
            if (s.front == top) {
                s.store = 0;
            }
        }
        for (Line line : s.lines) {
            draw(s, line);
        }
        long drawn = s.accounts[1] + s.accounts[2];
        int below = water(s, units, s.front);
        int depth = s.front;
        while (below > drawn) {
            depth--;
            below -= s.segments.get(units.get(depth)).density;
        }
        s.told = depth;
        if (s.present >= s.settings[6] && s.vials.size() < 40) {
            s.vials.add(new Vial(s.present, s.told, s.ticks));
            s.present = 0;
        }
    }

    private static void melt(State s, List<Integer> units, long limit) {
        while (s.front < units.size() && s.stock < limit) {
            int number = units.get(s.front);
            Segment seg = s.segments.get(number);
            if (seg.crack()) {
                while (s.front < units.size() && units.get(s.front) == number) {
                    s.front++;
                }
                continue;
            }
            int heat = s.settings[1] * seg.density / 100;
            if (s.store < heat) {
                return;
            }
            s.store -= heat;
            s.front++;
            long gas = seg.kind == 0 ? seg.density * seg.more / 100 : 0;
            long dirt = seg.kind == 2 ? seg.more : 0;
            s.stock += seg.density;
            s.gas += gas;
            s.dirt += dirt;
            s.accounts[0] += seg.density;
            s.accounts[3] += gas;
            s.accounts[5] += dirt;
        }
    }

    private static void draw(State s, Line line) {
        long water = Math.min(s.settings[3], s.stock);
        if (line.stuck || water == 0) {
            return;
        }
        long gas = s.gas * water / s.stock;
        long dirt = s.dirt * water / s.stock;
        s.stock -= water;
        s.gas -= gas;
        s.dirt -= dirt;
        s.accounts[4] += gas;
        s.accounts[6] += dirt;
        line.drawn += water;
        boolean waste = false;
        if (100 * gas / water > s.settings[5]) {
            line.gap = 1;
            waste = true;
        } else if (line.gap > 0) {
            waste = true;
            line.gap = line.gap + 1 > s.settings[7] ? 0 : line.gap + 1;
        }
        if (waste) {
            line.wasted += water;
            s.accounts[2] += water;
        } else {
            s.present += water;
            s.accounts[1] += water;
        }
        line.dirt += dirt;
        if (line.dirt >= s.settings[4]) {
            line.stuck = true;
        }
    }

    private static void ticks(State s, int many) {
        List<Integer> units = s.units();
        for (int i = 0; i < many; i++) {
            tick(s, units);
        }
    }

    int addSegment(int kind, int length, int density, int more) {
        Segment seg = new Segment(kind, length, density, more);
        if (!seg.possible()) {
            return INVALID;
        }
        if (s.segments.size() == 20) {
            return LIMIT;
        }
        record();
        s.segments.add(seg);
        return s.segments.size() - 1;
    }

    int segment(int segment, int what) {
        if (segment < 0 || segment >= s.segments.size() || what < 0 || what > 5) {
            return INVALID;
        }
        Segment seg = s.segments.get(segment);
        int lower = s.lower(segment);
        int melted = s.front <= lower ? 0 : s.front >= lower + seg.length ? seg.length : s.front - lower;
        return new int[] {seg.kind, seg.length, seg.density, seg.more, lower, melted}[what];
    }

    int segmentAt(int depth) {
        if (depth < 0) {
            return INVALID;
        }
        List<Integer> units = s.units();
        return depth < units.size() ? units.get(depth) : NOT_FOUND;
    }

    int waterBelow(int depth) {
        List<Integer> units = s.units();
        return depth < 0 || depth > units.size() ? INVALID : water(s, units, depth);
    }

    int renew() {
        record();
        State fresh = new State();
        fresh.segments = s.segments;
        fresh.settings = s.settings;
        int front = s.front;
        s = fresh;
        return front;
    }

    int undo() {
        if (history.isEmpty()) {
            return NOT_POSSIBLE;
        }
        s = history.removeLast();
        return history.size();
    }

    int set(int what, int value) {
        if (what < 0 || what > 7 || value < RANGES[what][0] || value > RANGES[what][1]) {
            return INVALID;
        }
        record();
        int previous = s.settings[what];
        s.settings[what] = value;
        return previous;
    }

    int clean(int line) {
        if (line < 0 || line > 3) {
            return INVALID;
        }
        if (!s.lines[line].stuck) {
            return NOT_POSSIBLE;
        }
        record();
        Line l = s.lines[line];
        int dirt = l.dirt;
        l.stuck = false;
        l.dirt = 0;
        l.gap = 0;
        return dirt;
    }

    int run(int ticks) {
        if (ticks < 1 || ticks > 1000) {
            return INVALID;
        }
        if (s.ticks + ticks > 20000) {
            return LIMIT;
        }
        record();
        ticks(s, ticks);
        return s.told;
    }

    int count(int what) {
        if (what < 0 || what > 23) {
            return INVALID;
        }
        long[] rest = {s.segments.size(), s.units().size(), s.front, s.store, s.stock, s.gas, s.dirt, s.told,
            s.vials.size(), s.present, s.ticks, s.reason, s.stopped, s.stuck(), history.size(), text.length()};
        return what < 8 ? s.settings[what] : Math.toIntExact(rest[what - 8]);
    }

    int account(int what) {
        return what < 0 || what > 6 ? INVALID : Math.toIntExact(s.accounts[what]);
    }

    int line(int line, int what) {
        if (line < 0 || line > 3 || what < 0 || what > 4) {
            return INVALID;
        }
        Line l = s.lines[line];
        return new int[] {l.stuck ? 1 : 0, l.dirt, l.gap, l.drawn, l.wasted}[what];
    }

    /** The two ways have to agree, so the model's answer is its only one. */
    int again() {
        return s.told;
    }

    int vial(int vial, int what) {
        if (vial < 0 || vial >= s.vials.size() || what < 0 || what > 3) {
            return INVALID;
        }
        Vial v = s.vials.get(vial);
        return new int[] {v.water, v.depth, vial == 0 ? 0 : s.vials.get(vial - 1).depth, v.ticks}[what];
    }

    int vialAt(int depth) {
        if (depth < 0) {
            return INVALID;
        }
        for (int i = 0; i < s.vials.size(); i++) {
            if (s.vials.get(i).depth > depth) {
                return i;
            }
        }
        return NOT_FOUND;
    }

    int ifRun(int ticks, int what) {
        if (ticks < 1 || ticks > 1000 || what < 0 || what > 6) {
            return INVALID;
        }
        if (s.ticks + ticks > 20000) {
            return LIMIT;
        }
        State then = s.twin();
        ticks(then, ticks);
        long[] answers = {then.told, then.front, then.accounts[1] - s.accounts[1], then.accounts[2] - s.accounts[2],
            then.vials.size() - s.vials.size(), then.stuck(), then.stopped - s.stopped};
        return Math.toIntExact(answers[what]);
    }

    int ticksTo(int depth) {
        if (depth < 0) {
            return INVALID;
        }
        State then = s.twin();
        List<Integer> units = then.units();
        for (int n = 0; n <= 2000 && s.ticks + n <= 20000; n++) {
            if (then.told >= depth) {
                return n;
            }
            tick(then, units);
        }
        return NOT_FOUND;
    }

    int flowFor(int ticks) {
        if (ticks < 1 || ticks > 300) {
            return INVALID;
        }
        if (s.ticks + ticks > 20000) {
            return LIMIT;
        }
        int best = 0;
        long most = 0;
        for (int flow = 500; flow >= 10; flow -= 10) {
            State then = s.twin();
            then.settings[3] = flow;
            ticks(then, ticks);
            if (then.accounts[1] >= most) {
                most = then.accounts[1];
                best = flow;
            }
        }
        return best;
    }

    int type(int character) {
        if (character < 32 || character > 126) {
            return INVALID;
        }
        if (text.length() == 100) {
            return LIMIT;
        }
        text += (char) character;
        return text.length();
    }

    int clearText() {
        int length = text.length();
        text = "";
        return length;
    }

    int fault(int what) {
        if (what < 0 || what > 2) {
            return INVALID;
        }
        int[] fault = read(new ArrayList<>());
        return fault == null ? NOT_FOUND : fault[what];
    }

    int lay() {
        List<Segment> laid = new ArrayList<>();
        if (read(laid) != null) {
            return NOT_POSSIBLE;
        }
        record();
        s.segments.addAll(laid);
        return laid.size();
    }

    private static final Pattern WORD = Pattern.compile("^[a-z]*");
    private static final Pattern NUMBER = Pattern.compile("^ ([0-9]{1,3})");

    /** Index, reason and number of the fault; null if there is none. */
    private int[] read(List<Segment> laid) {
        int at = 0;
        while (at < text.length()) {
            int first = at;
            Matcher word = WORD.matcher(text.substring(at));
            word.find();
            at += word.end();
            int kind = List.of("ice", "crack", "dust").indexOf(word.group());
            if (kind < 0) {
                return new int[] {first, 1, 0};
            }
            int[] n = new int[3];
            for (int i = 0; i < (kind == 1 ? 1 : 3); i++) {
                Matcher number = NUMBER.matcher(text.substring(at));
                if (!number.find()) {
                    return new int[] {first, 2, i + 1};
                }
                n[i] = Integer.parseInt(number.group(1));
                at += number.end();
            }
            int[][] ranges = kind == 1 ? new int[][] {{1, 300}}
                : new int[][] {{1, 300}, {60, 92}, kind == 0 ? new int[] {0, 50} : new int[] {1, 100}};
            for (int i = 0; i < ranges.length; i++) {
                if (n[i] < ranges[i][0] || n[i] > ranges[i][1]) {
                    return new int[] {first, 3, i + 1};
                }
            }
            if (s.segments.size() + laid.size() >= 20) {
                return new int[] {first, 4, 0};
            }
            if (at == text.length() || text.charAt(at) != ';') {
                return new int[] {first, 5, 0};
            }
            at++;
            laid.add(new Segment(kind, n[0], n[1], n[2]));
        }
        return null;
    }
}
