import java.util.ArrayList;
import java.util.Arrays;
import java.util.HashMap;
import java.util.HashSet;
import java.util.List;
import java.util.Map;
import java.util.Set;
import java.util.TreeMap;

/**
 * The document once more, told in another way than FoldDesk does, for the two to be held against each other:
 * each triangle is held as its three corners on the table (six units to a square), each cell as the middle of
 * such a triangle, and the stacks as lists.
 */
final class Model {
    static final int NONE = -1;
    static final int RANGE = -2;
    static final int STAYS = -3;
    static final int BEYOND = -4;
    static final int FULL = -5;
    static final List<String> WORDS = Arrays.asList("over", "under", "flap", "cut", "punch", "turn", "quarter",
            "open", "repeat", "move", "do", "try", "thick", "x", "y", "sum", "diff", "low", "high");

    /** A point of the table, or the middle of a cell. */
    record Spot(int x, int y) {
        int square(boolean up) {
            return Math.floorDiv(up ? y : x, 6);
        }

        int q() {
            int dx = Math.floorMod(x, 6) - 3;
            int dy = Math.floorMod(y, 6) - 3;
            return dx == 0 ? (dy < 0 ? 0 : 2) : (dx > 0 ? 1 : 3);
        }

        boolean onTable() {
            return square(false) >= -8 && square(false) <= 15 && square(true) >= -8 && square(true) <= 15;
        }
    }

    static Spot middle(int x, int y, int q) {
        int[] dx = {3, 5, 3, 1};
        int[] dy = {1, 3, 5, 3};
        return new Spot(6 * x + dx[q], 6 * y + dy[q]);
    }

    static Spot middle(Spot[] corners) {
        return new Spot((corners[0].x + corners[1].x + corners[2].x) / 3, (corners[0].y + corners[1].y + corners[2].y) / 3);
    }

    static boolean faceUp(Spot[] t) {
        return (t[1].x - t[0].x) * (t[2].y - t[0].y) - (t[1].y - t[0].y) * (t[2].x - t[0].x) > 0;
    }

    /** What lies: the corners of each triangle (null when it is gone) and the stacks, the lowest first. */
    static final class State {
        final Spot[][] corners;
        final Map<Spot, List<Integer>> stacks = new HashMap<>();

        State(int size) {
            corners = new Spot[size][];
        }

        State copy() {
            State other = new State(corners.length);
            System.arraycopy(corners, 0, other.corners, 0, corners.length);
            stacks.forEach((spot, list) -> other.stacks.put(spot, new ArrayList<>(list)));
            return other;
        }

        int there() {
            int number = 0;
            for (Spot[] t : corners) {
                number += t == null ? 0 : 1;
            }
            return number;
        }

        int layer(int f) {
            return stacks.get(middle(corners[f])).indexOf(f);
        }

        Map<Spot, Boolean> view() {
            Map<Spot, Boolean> seen = new HashMap<>();
            stacks.forEach((spot, list) -> seen.put(spot, faceUp(corners[list.get(list.size() - 1)])));
            return seen;
        }
    }

    record Entry(State before, int[] told) { }

    int n;
    State now;
    Spot[][] first;
    int[][] beside;
    final List<Entry> log = new ArrayList<>();
    final List<Map<Spot, Boolean>> shapes = new ArrayList<>(Arrays.asList(null, null, null, null, null, null));
    int tries;
    List<int[]> way = new ArrayList<>();
    String tape = "";
    int fault;
    int place = NONE;
    int refused;
    int begun;

    Model() {
        sheet(4);
    }

    static Spot[] cornersOf(int x, int y, int q) {
        Spot[] square = {new Spot(6 * x, 6 * y), new Spot(6 * x + 6, 6 * y), new Spot(6 * x + 6, 6 * y + 6), new Spot(6 * x, 6 * y + 6)};
        return new Spot[] {square[q], square[(q + 1) % 4], new Spot(6 * x + 3, 6 * y + 3)};
    }

    int sheet(int size) {
        if (size < 2 || size > 8) {
            return RANGE;
        }
        n = size;
        int f = 0;
        first = new Spot[4 * n * n][];
        for (int y = 0; y < n; y++) {
            for (int x = 0; x < n; x++) {
                for (int q = 0; q < 4; q++) {
                    first[f++] = cornersOf(x, y, q);
                }
            }
        }
        beside = new int[first.length][3];
        for (int a = 0; a < first.length; a++) {
            for (int e = 0; e < 3; e++) {
                beside[a][e] = NONE;
                Set<Spot> ends = Set.of(first[a][e], first[a][(e + 1) % 3]);
                for (int b = 0; b < first.length; b++) {
                    if (b != a && Arrays.asList(first[b]).containsAll(ends)) {
                        beside[a][e] = b;
                    }
                }
            }
        }
        now = new State(first.length);
        for (int i = 0; i < first.length; i++) {
            now.corners[i] = first[i];
            now.stacks.computeIfAbsent(middle(first[i]), s -> new ArrayList<>()).add(i);
        }
        log.clear();
        return n;
    }

    // ---- lines

    static int value(int kind, Spot p) {
        return kind == 0 ? p.x : kind == 1 ? p.y : kind == 2 ? p.x + p.y : p.x - p.y;
    }

    static boolean high(int kind, int c, Spot middle) {
        return value(kind, middle) > 6 * c;
    }

    static Spot mirror(int kind, int c, Spot p) {
        switch (kind) {
            case 0: return new Spot(12 * c - p.x, p.y);
            case 1: return new Spot(p.x, 12 * c - p.y);
            case 2: return new Spot(6 * c - p.y, 6 * c - p.x);
            default: return new Spot(p.y + 6 * c, p.x - 6 * c);
        }
    }

    static boolean isLine(int kind, int c) {
        return kind >= 0 && kind <= 3 && c >= -32 && c <= 32;
    }

    static boolean isCell(int x, int y, int q) {
        return x >= -8 && x <= 15 && y >= -8 && y <= 15 && q >= 0 && q <= 3;
    }

    // ---- acts

    Set<Integer> side(State s, int kind, int c, boolean high) {
        Set<Integer> set = new HashSet<>();
        for (int f = 0; f < s.corners.length; f++) {
            if (s.corners[f] != null && high(kind, c, middle(s.corners[f])) == high) {
                set.add(f);
            }
        }
        return set;
    }

    Set<Integer> flapSet(int kind, int c, boolean high, boolean over, Spot cell) {
        Set<Integer> set = new HashSet<>();
        List<Integer> stack = now.stacks.get(cell);
        if (stack == null || high(kind, c, cell) != high) {
            return set;
        }
        set.add(over ? stack.get(stack.size() - 1) : stack.get(0));
        Set<Integer> able = side(now, kind, c, high);
        boolean grew = true;
        while (grew) {
            grew = false;
            for (int f : new ArrayList<>(set)) {
                for (int e = 0; e < 3; e++) {
                    int g = beside[f][e];
                    boolean onLine = value(kind, now.corners[f][e]) == 6 * c && value(kind, now.corners[f][(e + 1) % 3]) == 6 * c;
                    if (g != NONE && able.contains(g) && !onLine) {
                        grew |= set.add(g);
                    }
                }
                List<Integer> mates = now.stacks.get(middle(now.corners[f]));
                int at = mates.indexOf(f);
                grew |= set.addAll(over ? mates.subList(at, mates.size()) : mates.subList(0, at + 1));
            }
        }
        return set;
    }

    /** The state behind a fold of a set; null when one would leave the table. */
    static State folded(State old, Set<Integer> set, int kind, int c, boolean over) {
        State s = old.copy();
        for (Spot cell : old.stacks.keySet()) {
            List<Integer> going = new ArrayList<>(old.stacks.get(cell));
            going.retainAll(set);
            if (going.isEmpty()) {
                continue;
            }
            Spot image = mirror(kind, c, cell);
            if (!image.onTable()) {
                return null;
            }
            s.stacks.get(cell).removeAll(going);
            if (s.stacks.get(cell).isEmpty()) {
                s.stacks.remove(cell);
            }
            List<Integer> there = s.stacks.computeIfAbsent(image, i -> new ArrayList<>());
            for (int i = 0; i < going.size(); i++) {
                int f = going.get(over ? going.size() - 1 - i : i);
                there.add(over ? there.size() : 0, f);
                Spot[] t = new Spot[3];
                for (int k = 0; k < 3; k++) {
                    t[k] = mirror(kind, c, old.corners[f][k]);
                }
                s.corners[f] = t;
            }
        }
        return s;
    }

    int done(State after, int answer, int... told) {
        if (log.size() >= 300) {
            return FULL;
        }
        int[] entry = Arrays.copyOf(told, 9);
        entry[8] = answer;
        log.add(new Entry(now, entry));
        now = after;
        return answer;
    }

    static int bit(boolean b) {
        return b ? 1 : 0;
    }

    int turnSet(Set<Integer> set, int kind, int c, boolean over, int... told) {
        if (set.isEmpty()) {
            return NONE;
        }
        if (set.size() == now.there()) {
            return STAYS;
        }
        State after = folded(now, set, kind, c, over);
        return after == null ? BEYOND : done(after, set.size(), told);
    }

    int fold(int kind, int c, boolean high, boolean over) {
        if (!isLine(kind, c)) {
            return RANGE;
        }
        return turnSet(side(now, kind, c, high), kind, c, over, 1, kind, c, bit(high), bit(over));
    }

    int flap(int kind, int c, boolean high, boolean over, int x, int y, int q) {
        if (!isLine(kind, c) || !isCell(x, y, q)) {
            return RANGE;
        }
        Set<Integer> set = flapSet(kind, c, high, over, middle(x, y, q));
        return turnSet(set, kind, c, over, 2, kind, c, bit(high), bit(over), x, y, q);
    }

    int without(Set<Integer> set, int... told) {
        State after = now.copy();
        for (int f : set) {
            after.stacks.remove(middle(now.corners[f]));
            after.corners[f] = null;
        }
        return done(after, set.size(), told);
    }

    int cut(int kind, int c, boolean high) {
        if (!isLine(kind, c)) {
            return RANGE;
        }
        Set<Integer> set = side(now, kind, c, high);
        if (set.isEmpty()) {
            return NONE;
        }
        return set.size() == now.there() ? STAYS : without(set, 3, kind, c, bit(high));
    }

    int punch(int x, int y, int q) {
        if (!isCell(x, y, q)) {
            return RANGE;
        }
        List<Integer> stack = now.stacks.get(middle(x, y, q));
        return stack == null ? NONE : without(new HashSet<>(stack), 4, x, y, q);
    }

    interface Mover {
        Spot move(Spot p);
    }

    static State moved(State old, Mover mover, boolean upsideDown) {
        State s = new State(old.corners.length);
        for (int f = 0; f < s.corners.length; f++) {
            if (old.corners[f] != null) {
                s.corners[f] = new Spot[] {mover.move(old.corners[f][0]), mover.move(old.corners[f][1]), mover.move(old.corners[f][2])};
            }
        }
        old.stacks.forEach((spot, list) -> {
            List<Integer> stack = new ArrayList<>(list);
            if (upsideDown) {
                java.util.Collections.reverse(stack);
            }
            s.stacks.put(mover.move(spot), stack);
        });
        return s;
    }

    static Spot quartered(Spot p) {
        return new Spot(48 - p.y, p.x);
    }

    int turn() {
        return now.there() == 0 ? NONE : done(moved(now, p -> new Spot(48 - p.x, p.y), true), now.there(), 5);
    }

    int quarter() {
        return now.there() == 0 ? NONE : done(moved(now, Model::quartered, false), now.there(), 6);
    }

    int open() {
        if (now.there() == 0) {
            return NONE;
        }
        State s = new State(first.length);
        for (int f = 0; f < first.length; f++) {
            if (now.corners[f] != null) {
                s.corners[f] = first[f];
                s.stacks.put(middle(first[f]), new ArrayList<>(List.of(f)));
            }
        }
        return done(s, now.there(), 7);
    }

    int undo() {
        if (log.isEmpty()) {
            return NONE;
        }
        now = log.remove(log.size() - 1).before;
        return log.size();
    }

    // ---- what lies

    boolean isTriangle(int f) {
        return f >= 0 && f < first.length;
    }

    int triangle(int f, int what) {
        if (!isTriangle(f) || what < 0 || what > 5) {
            return NONE;
        }
        Spot[] t = now.corners[f];
        if (t == null) {
            return what == 0 ? 0 : NONE;
        }
        Spot cell = middle(t);
        int[] told = {1, cell.square(false), cell.square(true), cell.q(), bit(faceUp(t)), now.layer(f)};
        return told[what];
    }

    int cell(int x, int y, int q, int what) {
        if (!isCell(x, y, q) || what < 0 || what > 4) {
            return NONE;
        }
        List<Integer> stack = now.stacks.getOrDefault(middle(x, y, q), List.of());
        if (what == 0) {
            return stack.size();
        }
        if (stack.isEmpty()) {
            return NONE;
        }
        int f = what <= 2 ? stack.get(stack.size() - 1) : stack.get(0);
        return what % 2 == 1 ? f : bit(faceUp(now.corners[f]));
    }

    int layer(int x, int y, int q, int k) {
        if (!isCell(x, y, q)) {
            return NONE;
        }
        List<Integer> stack = now.stacks.getOrDefault(middle(x, y, q), List.of());
        return k < 0 || k >= stack.size() ? NONE : stack.get(k);
    }

    int side(int f, int e) {
        if (!isTriangle(f) || e < 0 || e > 2) {
            return NONE;
        }
        int g = beside[f][e];
        if (g == NONE) {
            return 4;
        }
        if (now.corners[f] == null || now.corners[g] == null) {
            return 3;
        }
        if (faceUp(now.corners[f]) == faceUp(now.corners[g])) {
            return 0;
        }
        if (!middle(now.corners[f]).equals(middle(now.corners[g]))) {
            throw new IllegalStateException("a crease of two that lie apart");
        }
        int lower = now.layer(f) < now.layer(g) ? f : g;
        return faceUp(now.corners[lower]) ? 1 : 2;
    }

    int point(int x, int y, boolean centre, int what) {
        int least = centre ? 0 : 1;
        if (x < least || y < least || x >= n || y >= n || what < 0 || what > 3) {
            return NONE;
        }
        Spot p = centre ? new Spot(6 * x + 3, 6 * y + 3) : new Spot(6 * x, 6 * y);
        int[] kinds = new int[3];
        int round = 0;
        TreeMap<Integer, Integer> angles = new TreeMap<>();
        for (int f = 0; f < first.length; f++) {
            if (!Arrays.asList(first[f]).contains(p)) {
                continue;
            }
            round += now.corners[f] == null ? 0 : 1;
            for (int e = 0; e < 3; e++) {
                Spot a = first[f][e];
                Spot b = first[f][(e + 1) % 3];
                int s = side(f, e);
                if ((a.equals(p) || b.equals(p)) && (s == 1 || s == 2)) {
                    Spot far = a.equals(p) ? b : a;
                    int angle = (int) Math.round(Math.toDegrees(Math.atan2(far.y - p.y, far.x - p.x)));
                    if (angles.put(Math.floorMod(angle, 360), s) == null) {
                        kinds[s]++;
                    }
                }
            }
        }
        if (what == 2) {
            List<Integer> list = new ArrayList<>(angles.keySet());
            int sum = 0;
            for (int i = 0; i < list.size(); i += 2) {
                int next = i + 1 < list.size() ? list.get(i + 1) : list.get(0) + 360;
                sum += next - list.get(i);
            }
            return sum;
        }
        return what == 0 ? kinds[2] : what == 1 ? kinds[1] : round;
    }

    int piece(int f) {
        if (!isTriangle(f) || now.corners[f] == null) {
            return NONE;
        }
        Set<Integer> piece = new HashSet<>(Set.of(f));
        List<Integer> open = new ArrayList<>(piece);
        while (!open.isEmpty()) {
            int a = open.remove(open.size() - 1);
            for (int g : beside[a]) {
                if (g != NONE && now.corners[g] != null && piece.add(g)) {
                    open.add(g);
                }
            }
        }
        return piece.stream().min(Integer::compare).get();
    }

    int pieces() {
        Set<Integer> least = new HashSet<>();
        for (int f = 0; f < first.length; f++) {
            least.add(piece(f));
        }
        least.remove(NONE);
        return least.size();
    }

    int view(int what) {
        Set<Spot> cells = now.stacks.keySet();
        if (what == 0) {
            return cells.size();
        }
        if (what == 1) {
            return now.stacks.values().stream().mapToInt(List::size).max().orElse(0);
        }
        if (what == 2 || what == 3) {
            return (int) now.view().values().stream().filter(face -> face == (what == 2)).count();
        }
        if (what < 4 || what > 7) {
            return NONE;
        }
        java.util.stream.IntStream all = cells.stream().mapToInt(s -> s.square(what >= 6));
        return (what % 2 == 0 ? all.min() : all.max()).orElse(NONE);
    }

    // ---- shapes

    int keep(int k) {
        if (k < 0 || k > 5) {
            return RANGE;
        }
        shapes.set(k, now.view());
        return now.view().size();
    }

    static Map<Spot, Boolean> pushed(Map<Spot, Boolean> view) {
        int x = view.keySet().stream().mapToInt(s -> s.square(false)).min().orElse(0);
        int y = view.keySet().stream().mapToInt(s -> s.square(true)).min().orElse(0);
        Map<Spot, Boolean> other = new HashMap<>();
        view.forEach((s, face) -> other.put(new Spot(s.x - 6 * x, s.y - 6 * y), face));
        return other;
    }

    static int quartersTo(Map<Spot, Boolean> view, Map<Spot, Boolean> shape) {
        Map<Spot, Boolean> turned = view;
        for (int r = 0; r < 4; r++) {
            if (pushed(turned).equals(pushed(shape))) {
                return r;
            }
            Map<Spot, Boolean> next = new HashMap<>();
            turned.forEach((s, face) -> next.put(quartered(s), face));
            turned = next;
        }
        return NONE;
    }

    int alike(int k) {
        return k < 0 || k > 5 || shapes.get(k) == null ? RANGE : quartersTo(now.view(), shapes.get(k));
    }

    int search(int k, int most) {
        if (k < 0 || k > 5 || shapes.get(k) == null || most < 1 || most > 3) {
            return RANGE;
        }
        tries = 0;
        way = new ArrayList<>();
        if (alike(k) >= 0) {
            return 0;
        }
        for (int number = 1; number <= most; number++) {
            int answer = seek(now, number, shapes.get(k));
            if (answer != NONE) {
                if (answer == FULL) {
                    way.clear();
                }
                return answer == FULL ? FULL : number;
            }
        }
        return NONE;
    }

    private int seek(State s, int more, Map<Spot, Boolean> shape) {
        for (int kind = 0; kind < 4; kind++) {
            for (int c = -32; c <= 32; c++) {
                if (side(s, kind, c, false).isEmpty() || side(s, kind, c, true).isEmpty()) {
                    continue;
                }
                for (int way4 = 0; way4 < 4; way4++) {
                    boolean high = way4 >= 2;
                    boolean over = way4 % 2 == 0;
                    if (tries == 1000) {
                        return FULL;
                    }
                    tries++;
                    State after = folded(s, side(s, kind, c, high), kind, c, over);
                    if (after == null) {
                        continue;
                    }
                    way.add(new int[] {kind, c, bit(high), bit(over)});
                    int answer = more > 1 ? seek(after, more - 1, shape) : quartersTo(after.view(), shape) >= 0 ? 1 : NONE;
                    if (answer != NONE) {
                        return answer;
                    }
                    way.remove(way.size() - 1);
                }
            }
        }
        return NONE;
    }

    int found(int i, int what) {
        return i < 0 || i >= way.size() || what < 0 || what > 3 ? NONE : way.get(i)[what];
    }

    // ---- diagrams

    int feed(int... five) {
        if (tape.length() + 20 > 2000) {
            return FULL;
        }
        StringBuilder more = new StringBuilder(tape);
        for (int word : five) {
            for (int shift = 24; shift >= 0; shift -= 8) {
                more.append((char) (word >>> shift & 255));
            }
        }
        tape = more.toString();
        return tape.length();
    }

    int end(int length) {
        if (length < 0 || length > tape.length()) {
            return NONE;
        }
        tape = tape.substring(0, length);
        return length;
    }

    @SuppressWarnings("serial")
    static final class Fault extends RuntimeException {
        final int why;
        final int place;

        Fault(int why, int place) {
            this.why = why;
            this.place = place;
        }
    }

    @SuppressWarnings("serial")
    static final class Stop extends RuntimeException {
        final int place;
        final int answer;

        Stop(int place, int answer) {
            this.place = place;
            this.answer = answer;
        }
    }

    static final class Step {
        String word;
        int place;
        List<Integer> numbers = new ArrayList<>();
        List<Step> block;
        boolean flap;
    }

    /** Reads a text by recursive descent. */
    static final class Parser {
        final String text;
        int next;
        String token;
        int place;
        int steps;
        int moves;
        int depth;
        final List<String> names = new ArrayList<>();
        final List<Step> told = new ArrayList<>();
        final List<Step> ended = new ArrayList<>();

        Parser(String text) {
            this.text = text;
            read();
        }

        void read() {
            while (next < text.length() && (text.charAt(next) == ' ' || text.charAt(next) == '\n')) {
                next++;
            }
            place = next;
            java.util.regex.Matcher m = java.util.regex.Pattern.compile("[a-z]+|-?[0-9]+|[{};]").matcher(text);
            m.region(next, text.length());
            if (next == text.length()) {
                token = "";
            } else if (!m.lookingAt()) {
                token = "?";
                next++;
            } else {
                token = m.group();
                next = m.end();
                boolean tooLong = isWord() ? token.length() > 10 : token.replace("-", "").length() > 3;
                if (tooLong) {
                    token = "?";
                }
            }
        }

        boolean isWord() {
            return !token.isEmpty() && token.charAt(0) >= 'a' && token.charAt(0) <= 'z';
        }

        Fault fault(int why) {
            return new Fault(why, place);
        }

        void want(String sign) {
            if (!token.equals(sign)) {
                throw fault(1);
            }
            read();
        }

        int oneOf(String... words) {
            int at = Arrays.asList(words).indexOf(token);
            if (at < 0) {
                throw fault(1);
            }
            read();
            return at;
        }

        int number(int least, int most) {
            if (!token.matches("-?[0-9]+")) {
                throw fault(1);
            }
            int value = Integer.parseInt(token);
            if (value < least || value > most) {
                throw fault(3);
            }
            read();
            return value;
        }

        List<Step> steps(boolean inBlock) {
            List<Step> list = new ArrayList<>();
            while (!(inBlock ? token.equals("}") : token.isEmpty())) {
                list.add(step());
            }
            return list;
        }

        List<Step> block() {
            if (token.equals("{") && depth == 8) {
                throw fault(4);
            }
            want("{");
            depth++;
            List<Step> list = steps(true);
            depth--;
            return list;
        }

        Step step() {
            List<String> starts = Arrays.asList("over", "under", "cut", "punch", "turn", "quarter", "open", "repeat", "move", "do", "try", "thick");
            if (!starts.contains(token)) {
                throw fault(1);
            }
            if (++steps > 300 || token.equals("move") && ++moves > 20) {
                throw fault(4);
            }
            Step step = new Step();
            step.word = token;
            step.place = place;
            read();
            switch (step.word) {
                case "over":
                case "under":
                case "cut":
                    step.numbers.add(oneOf("x", "y", "sum", "diff"));
                    step.numbers.add(number(-32, 32));
                    step.numbers.add(oneOf("low", "high"));
                    if (!step.word.equals("cut") && token.equals("flap")) {
                        read();
                        step.flap = true;
                        cell(step);
                    }
                    want(";");
                    break;
                case "punch":
                    cell(step);
                    want(";");
                    break;
                case "repeat":
                    step.numbers.add(number(1, 50));
                    step.block = block();
                    read();
                    break;
                case "try":
                    step.block = block();
                    read();
                    break;
                case "thick":
                    step.numbers.add(number(0, 256));
                    want(";");
                    break;
                case "move":
                    move(step);
                    break;
                case "do":
                    name();
                    Step taken = null;
                    for (int i = 0; i < names.size() && taken == null; i++) {
                        if (names.get(i).equals(token) && ended.contains(told.get(i))) {
                            taken = told.get(i);
                        }
                    }
                    if (taken == null) {
                        throw fault(2);
                    }
                    step.block = taken.block;
                    read();
                    want(";");
                    break;
                default:
                    want(";");
                    break;
            }
            return step;
        }

        void cell(Step step) {
            for (int i = 0; i < 3; i++) {
                step.numbers.add(number(-32, 32));
            }
        }

        void name() {
            if (!isWord() || WORDS.contains(token)) {
                throw fault(1);
            }
        }

        void move(Step step) {
            name();
            for (int i = 0; i < names.size(); i++) {
                if (names.get(i).equals(token) && ended.contains(told.get(i))) {
                    throw fault(2);
                }
            }
            names.add(token);
            told.add(step);
            read();
            step.block = block();
            ended.add(step);
            read();
        }
    }

    int diagram() {
        String text = tape;
        tape = "";
        fault = 0;
        place = NONE;
        refused = 0;
        begun = 0;
        int base = log.size();
        try {
            run(new Parser(text).steps(false));
            return log.size() - base;
        } catch (Fault f) {
            fault = f.why;
            place = f.place;
            return NONE;
        } catch (Stop s) {
            fault = 5;
            place = s.place;
            refused = s.answer;
            takeBack(base);
            return NONE;
        }
    }

    private void takeBack(int base) {
        while (log.size() > base) {
            undo();
        }
    }

    private void run(List<Step> block) {
        for (Step step : block) {
            if (++begun > 400) {
                throw new Stop(step.place, 0);
            }
            runStep(step);
        }
    }

    private void runStep(Step step) {
        List<Integer> no = step.numbers;
        int answer = 0;
        switch (step.word) {
            case "over":
            case "under":
                boolean over = step.word.equals("over");
                answer = step.flap ? flap(no.get(0), no.get(1), no.get(2) == 1, over, no.get(3), no.get(4), no.get(5))
                        : fold(no.get(0), no.get(1), no.get(2) == 1, over);
                break;
            case "cut":
                answer = cut(no.get(0), no.get(1), no.get(2) == 1);
                break;
            case "punch":
                answer = punch(no.get(0), no.get(1), no.get(2));
                break;
            case "turn":
                answer = turn();
                break;
            case "quarter":
                answer = quarter();
                break;
            case "open":
                answer = open();
                break;
            case "repeat":
                for (int i = 0; i < no.get(0); i++) {
                    run(step.block);
                }
                break;
            case "do":
                run(step.block);
                break;
            case "try":
                int base = log.size();
                try {
                    run(step.block);
                } catch (Stop s) {
                    takeBack(base);
                }
                break;
            case "thick":
                if (view(1) > no.get(0)) {
                    throw new Stop(step.place, 0);
                }
                break;
            default:
                break;
        }
        if (answer < 0) {
            throw new Stop(step.place, answer);
        }
    }

    int fault(int what) {
        int[] told = {fault, place, refused, begun};
        return what < 0 || what > 3 ? NONE : told[what];
    }

    int log(int i, int what) {
        return i < 0 || i >= log.size() || what < 0 || what > 8 ? NONE : log.get(i).told[what];
    }

    int count(int what) {
        int kept = (int) shapes.stream().filter(s -> s != null).count();
        int[] told = {n, now.there(), log.size(), tries, tape.length(), kept};
        return what < 0 || what > 5 ? NONE : told[what];
    }
}
