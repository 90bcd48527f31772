import java.math.BigInteger;
import java.util.ArrayList;
import java.util.Arrays;
import java.util.List;
import java.util.Map;
import java.util.Set;
import java.util.TreeMap;
import java.util.regex.Matcher;
import java.util.regex.Pattern;

/** The document once more, slow and plain and with another build than the class: each answer worked out anew from the words. */
final class Oracle {
    private static final Grammar GRAMMAR = new Grammar();
    private static final Set<String> WORDS = GRAMMAR.words();
    private static final int NONE = -1;

    private static final class ByZero extends RuntimeException {
        private static final long serialVersionUID = 1;
    }

    /** A part of a law or a COND: an operator with its parts, or a leaf. */
    private static final class Node {
        final String op;
        final int constant;
        final List<Node> parts = new ArrayList<>();

        Node(String op, Node... parts) {
            this.op = op;
            this.parts.addAll(List.of(parts));
            constant = op.matches("[0-9]+") ? Integer.parseInt(op) : NONE;
        }

        int number(Map<String, Integer> vars) {
            if (constant != NONE) {
                return constant;
            }
            if (parts.isEmpty()) {
                return vars.getOrDefault(op, 0);
            }
            int left = parts.get(0).number(vars);
            int right = parts.get(1).number(vars);
            switch (op) {
                case "+": return left + right;
                case "-": return left - right;
                case "*": return left * right;
                default:
                    if (right == 0) {
                        throw new ByZero();
                    }
                    return (int) ((long) left / right);
            }
        }

        boolean holds(Map<String, Integer> vars) {
            switch (op) {
                case "or": return parts.get(0).holds(vars) | parts.get(1).holds(vars);
                case "and": return parts.get(0).holds(vars) & parts.get(1).holds(vars);
                case "not": return !parts.get(0).holds(vars);
                default: break;
            }
            try {
                long left = parts.get(0).number(vars);
                long right = parts.get(1).number(vars);
                switch (op) {
                    case "==": return left == right;
                    case "!=": return left != right;
                    case "<": return left < right;
                    default: return left <= right;
                }
            } catch (ByZero e) {
                return false;
            }
        }
    }

    private static final class Door {
        int side;
        int size;
        boolean open;
    }

    private static final class Text {
        int rows = 4;
        int cols = 4;
        int faces;
        final Map<String, Integer> amounts = new TreeMap<>(Map.of("weigh", 20, "lap", 5, "nail", 30, "clip", 25, "years", 0, "moss", 0));
        final Map<String, List<Node>> rules = new TreeMap<>(Map.of("nailed", new ArrayList<>(), "clipped", new ArrayList<>(), "warn", new ArrayList<>()));
        final Map<String, Node> laws = new TreeMap<>();
        final List<Door> doors = new ArrayList<>();

        boolean some(String sort, Map<String, Integer> vars) {
            for (Node rule : rules.get(sort)) {
                if (rule.holds(vars)) {
                    return true;
                }
            }
            return false;
        }
    }

    private static final class Tile {
        boolean there = true;
        boolean nailed;
        boolean clipped;
        int age;
        int moss;
    }

    private static final class Gust {
        int gust;
        int way;
        int weight;
    }

    private static final class State {
        final List<Tile> tiles = new ArrayList<>();
        final List<Boolean> open = new ArrayList<>();
        boolean felt;
        final Map<Integer, Integer> yard = new TreeMap<>();
        final List<int[]> cars = new ArrayList<>();
        final List<Gust> gusts = new ArrayList<>();

        State copy() {
            State other = new State();
            for (Tile t : tiles) {
                Tile u = new Tile();
                u.there = t.there;
                u.nailed = t.nailed;
                u.clipped = t.clipped;
                u.age = t.age;
                u.moss = t.moss;
                other.tiles.add(u);
            }
            other.open.addAll(open);
            other.felt = felt;
            other.yard.putAll(yard);
            for (int[] car : cars) {
                other.cars.add(car.clone());
            }
            other.gusts.addAll(gusts);
            return other;
        }

        int gone() {
            int n = 0;
            for (Tile t : tiles) {
                n += t.there ? 0 : 1;
            }
            return n;
        }
    }

    private static final class Fall {
        final List<Integer> order = new ArrayList<>();
        final Map<Integer, Integer> round = new TreeMap<>();
        final Map<Integer, Integer> cell = new TreeMap<>();
        int rounds;
    }

    private static final class Fact {
        int age;
        int way;
        int nails;
        int lost;
        int names = NONE;
    }

    private String tape = "";
    private int faultPlace = NONE;
    private Text text = new Text();
    private State state;
    private State[] slots = new State[3];
    private final List<Fact> facts = new ArrayList<>();

    Oracle() {
        begin(new Text());
    }

    private void begin(Text fresh) {
        text = fresh;
        state = new State();
        for (int n = 0; n < text.rows * text.cols; n++) {
            Tile t = new Tile();
            Map<String, Integer> vars = placeVars(n);
            t.nailed = text.some("nailed", vars);
            t.clipped = text.some("clipped", vars);
            t.age = text.amounts.get("years");
            t.moss = text.amounts.get("moss");
            state.tiles.add(t);
        }
        for (Door d : text.doors) {
            state.open.add(d.open);
        }
        slots = new State[3];
    }

    private Map<String, Integer> placeVars(int n) {
        int row = n / text.cols;
        int col = n % text.cols;
        boolean upDown = row == 0 || row == text.rows - 1;
        boolean leftRight = col == 0 || col == text.cols - 1;
        Map<String, Integer> vars = new TreeMap<>();
        vars.put("row", row);
        vars.put("col", col);
        vars.put("third", n % 3);
        vars.put("edge", upDown && leftRight ? 2 : upDown || leftRight ? 1 : 0);
        return vars;
    }

    // ---- texts

    int feed(int a, int b, int c, int d, int e) {
        if (tape.length() > 1980) {
            return NONE;
        }
        StringBuilder s = new StringBuilder(tape);
        for (int four : new int[] {a, b, c, d, e}) {
            s.append((char) (four >>> 24)).append((char) (four >>> 16 & 255)).append((char) (four >>> 8 & 255)).append((char) (four & 255));
        }
        tape = s.toString();
        return tape.length();
    }

    int back(int n) {
        if (n < 0 || n > tape.length()) {
            return NONE;
        }
        tape = tape.substring(0, tape.length() - n);
        return tape.length();
    }

    /** For tests of long runs: the text at once. */
    void put(String s) {
        tape += s;
    }

    private record Token(String sort, String letters, int place) { }

    private static List<Token> tokens(String s) {
        List<Token> all = new ArrayList<>();
        Matcher m = Pattern.compile("[\\t\\n\\r ]+|[a-z]+|[0-9]+|==|!=|<=|[;=+\\-*/<()]|(?s:.)").matcher(s);
        while (m.find()) {
            String t = m.group();
            if (t.matches("[\\t\\n\\r ]+")) {
                continue;
            }
            String sort = "bad";
            if (WORDS.contains(t) || t.matches("==|!=|<=|[;=+\\-*/<()]")) {
                sort = "'" + t + "'";
            } else if (t.matches("[a-z]{1,8}")) {
                sort = "NAME";
            } else if (t.matches("[0-9]{1,4}")) {
                sort = "INT";
            }
            all.add(new Token(sort, t, m.start()));
        }
        return all;
    }

    int read() {
        String s = tape;
        tape = "";
        List<Token> all = tokens(s);
        int[] fault = early(s, all);
        if (fault == null) {
            fault = late(all);
        }
        if (fault != null) {
            faultPlace = fault[0];
            return fault[1];
        }
        faultPlace = NONE;
        begin(build(all));
        return 0;
    }

    private static int[] least(int[] a, int place, int number) {
        return a == null || place < a[0] || place == a[0] && number < a[1] ? new int[] {place, number} : a;
    }

    private static int[] early(String s, List<Token> all) {
        List<String> sorts = new ArrayList<>();
        for (Token t : all) {
            sorts.add(t.sort());
        }
        int misfit = GRAMMAR.firstMisfit(sorts);
        int[] fault = null;
        if (misfit >= 0) {
            fault = least(null, misfit < all.size() ? all.get(misfit).place() : s.length(), 1);
        }
        Map<String, Integer> seen = new TreeMap<>();
        int nested = 0;
        for (int i = 0; i < all.size() && (misfit < 0 || i < misfit); i++) {
            Token t = all.get(i);
            int times = seen.merge(t.letters(), 1, Integer::sum);
            nested += t.letters().equals("(") ? 1 : t.letters().equals(")") ? -1 : 0;
            boolean room = i == 400 || t.sort().matches("'(nailed|clipped|warn|door)'") && times == 7
                || t.letters().equals("(") && nested == 7;
            if (room) {
                fault = least(fault, t.place(), 2);
            }
        }
        return fault;
    }

    private static int[] late(List<Token> all) {
        int[] fault = null;
        List<String> names = new ArrayList<>();
        for (int i = 0; i < all.size(); i++) {
            if (i > 0 && !all.get(i - 1).letters().equals(";")) {
                continue;
            }
            String word = all.get(i).letters();
            int[][] bounds = {};
            if (word.equals("roof")) {
                bounds = new int[][] {{1, 2, 6}, {2, 2, 6}, {3, 0, 3}};
            } else if (word.matches("weigh|lap|nail|clip|years|moss")) {
                bounds = new int[][] {{1, 0, 99}};
            } else if (word.equals("door")) {
                bounds = new int[][] {{2, 0, 3}, {3, 1, 9}};
                Token name = all.get(i + 1);
                if (names.contains(name.letters())) {
                    fault = least(fault, name.place(), 3);
                }
                names.add(name.letters());
            }
            for (int[] b : bounds) {
                Token t = all.get(i + b[0]);
                int v = Integer.parseInt(t.letters());
                if (v < b[1] || v > b[2]) {
                    fault = least(fault, t.place(), 5);
                }
            }
        }
        return fault;
    }

    private static Text build(List<Token> all) {
        Text text = new Text();
        List<String> tell = new ArrayList<>();
        for (Token t : all) {
            if (!t.letters().equals(";")) {
                tell.add(t.letters());
                continue;
            }
            String word = tell.get(0);
            if (word.equals("roof")) {
                text.rows = Integer.parseInt(tell.get(1));
                text.cols = Integer.parseInt(tell.get(2));
                text.faces = Integer.parseInt(tell.get(3));
            } else if (text.amounts.containsKey(word)) {
                text.amounts.put(word, Integer.parseInt(tell.get(1)));
            } else if (text.rules.containsKey(word)) {
                text.rules.get(word).add(split(tell.subList(2, tell.size())));
            } else if (word.equals("door")) {
                Door d = new Door();
                d.side = Integer.parseInt(tell.get(2));
                d.size = Integer.parseInt(tell.get(3));
                d.open = tell.size() == 5;
                text.doors.add(d);
            } else {
                text.laws.put(word, split(tell.subList(2, tell.size())));
            }
            tell.clear();
        }
        return text;
    }

    /** A tree by the last operator that binds least, outside of brackets. */
    private static Node split(List<String> s) {
        for (String level : new String[] {"or", "and"}) {
            int at = s.lastIndexOf(level);
            if (at >= 0) {
                return new Node(level, split(s.subList(0, at)), split(s.subList(at + 1, s.size())));
            }
        }
        if (s.get(0).equals("not")) {
            return new Node("not", split(s.subList(1, s.size())));
        }
        for (String level : new String[] {"==|!=|<|<=", "[+-]", "[*/]"}) {
            int nested = 0;
            for (int i = s.size() - 1; i >= 0; i--) {
                nested += s.get(i).equals(")") ? 1 : s.get(i).equals("(") ? -1 : 0;
                if (nested == 0 && s.get(i).matches(level)) {
                    return new Node(s.get(i), split(s.subList(0, i)), split(s.subList(i + 1, s.size())));
                }
            }
        }
        return s.size() == 1 ? new Node(s.get(0)) : split(s.subList(1, s.size() - 1));
    }

    int place() {
        return faultPlace;
    }

    // ---- the ROOF

    private boolean isTile(int t) {
        return 0 <= t && t < state.tiles.size();
    }

    private static boolean isGustWay(int gust, int way) {
        return 0 <= gust && gust <= 99 && 0 <= way && way <= 3;
    }

    private boolean isDoor(int d) {
        return 0 <= d && d < text.doors.size();
    }

    int tile(int n, int what) {
        if (!isTile(n) || what < 0 || what > 5) {
            return NONE;
        }
        Tile t = state.tiles.get(n);
        return new int[] {t.there ? 1 : 0, t.nailed ? 1 : 0, t.clipped ? 1 : 0, t.age, t.moss, placeVars(n).get("edge")}[what];
    }

    boolean set(int n, int what, int value) {
        if (!isTile(n) || value < 0) {
            return false;
        }
        Tile t = state.tiles.get(n);
        if (what == 1 && value <= 1) {
            t.nailed = value == 1;
        } else if (what == 2 && value <= 1) {
            t.clipped = value == 1;
        } else if (what == 3 && value <= 99) {
            t.age = value;
        } else if (what == 4 && value <= 99) {
            t.moss = value;
        } else {
            return false;
        }
        return true;
    }

    boolean there(int n, boolean is) {
        if (!isTile(n) || state.tiles.get(n).there == is) {
            return false;
        }
        state.tiles.get(n).there = is;
        return true;
    }

    boolean open(int d, boolean is) {
        if (!isDoor(d)) {
            return false;
        }
        state.open.set(d, is);
        return true;
    }

    boolean felt(boolean is) {
        boolean was = state.felt;
        state.felt = is;
        return was;
    }

    int door(int d, int what) {
        if (!isDoor(d) || what < 0 || what > 2) {
            return NONE;
        }
        return what == 0 ? text.doors.get(d).side : what == 1 ? text.doors.get(d).size : state.open.get(d) ? 1 : 0;
    }

    private int draught(State s, int way, boolean in) {
        int sum = (text.faces == way) == in ? s.gone() : 0;
        for (int d = 0; d < text.doors.size(); d++) {
            if (s.open.get(d) && (text.doors.get(d).side == way) == in) {
                sum += text.doors.get(d).size;
            }
        }
        return sum;
    }

    int inlet(int way, int what) {
        return way < 0 || way > 3 || what < 0 || what > 1 ? NONE : draught(state, way, what == 0);
    }

    private Map<String, Integer> vars(State s, int n, int gust, int way) {
        Map<String, Integer> vars = placeVars(n);
        int bare = 0;
        for (int other = 0; other < s.tiles.size(); other++) {
            int apart = Math.abs(other / text.cols - n / text.cols) + Math.abs(other % text.cols - n % text.cols);
            if (apart == 1 && !s.tiles.get(other).there) {
                bare++;
            }
        }
        Tile t = s.tiles.get(n);
        vars.put("bare", bare);
        vars.put("holes", s.gone());
        vars.put("inlet", draught(s, way, true));
        vars.put("outlet", draught(s, way, false));
        vars.put("gust", gust);
        vars.put("way", way);
        vars.put("age", t.age);
        vars.put("grown", t.moss);
        vars.put("nails", t.nailed ? 1 : 0);
        return vars;
    }

    private int law(String which, Map<String, Integer> vars, int without) {
        if (!text.laws.containsKey(which)) {
            return without;
        }
        try {
            return text.laws.get(which).number(vars);
        } catch (ByZero e) {
            return 0;
        }
    }

    private int[] forces(State s, int n, int gust, int way) {
        Map<String, Integer> v = vars(s, n, gust, way);
        Tile t = s.tiles.get(n);
        int suck = law("suck", v, gust + gust * v.get("edge") / 2);
        int press = law("press", v, gust * (v.get("inlet") - v.get("outlet")) / 10);
        if (s.felt) {
            press = 0;
        }
        int hold = text.amounts.get("weigh");
        if (n / text.cols < text.rows - 1 && s.tiles.get(n + text.cols).there) {
            hold += text.amounts.get("lap");
        }
        hold += t.nailed ? Math.max(0, text.amounts.get("nail") - t.age) : 0;
        hold += t.clipped ? text.amounts.get("clip") : 0;
        hold += t.moss + law("holds", v, 0);
        return new int[] {suck, press, hold, suck + press - hold};
    }

    int lift(int n, int gust, int way, int what) {
        return !isTile(n) || !isGustWay(gust, way) || what < 0 || what > 3 ? Integer.MIN_VALUE : forces(state, n, gust, way)[what];
    }

    private Fall fallOf(State from, int gust, int way) {
        State s = from.copy();
        Fall f = new Fall();
        while (true) {
            List<Integer> going = new ArrayList<>();
            for (int n = 0; n < s.tiles.size(); n++) {
                if (s.tiles.get(n).there && forces(s, n, gust, way)[3] > 0) {
                    going.add(n);
                    int far = Math.min(19, Math.max(0, law("far", vars(s, n, gust, way), gust / 10)));
                    int side = (way + 2) % 4;
                    f.cell.put(n, 1000 * side + 100 * (side % 2 == 0 ? n % text.cols : n / text.cols) + far);
                    f.round.put(n, f.rounds);
                }
            }
            if (going.isEmpty()) {
                return f;
            }
            f.order.addAll(going);
            f.rounds++;
            for (int n : going) {
                s.tiles.get(n).there = false;
            }
        }
    }

    int goes(int n, int way, boolean far) {
        if (!isTile(n) || way < 0 || way > 3) {
            return NONE;
        }
        for (int gust = 0; gust < 100 && state.tiles.get(n).there; gust++) {
            if (far ? fallOf(state, gust, way).round.containsKey(n) : forces(state, n, gust, way)[3] > 0) {
                return gust;
            }
        }
        return -2;
    }

    int first(int way, boolean wantsGust) {
        if (way < 0 || way > 3) {
            return NONE;
        }
        for (int gust = 0; gust < 100; gust++) {
            Fall f = fallOf(state, gust, way);
            if (!f.order.isEmpty()) {
                return wantsGust ? gust : f.order.get(0);
            }
        }
        return -2;
    }

    int fall(int gust, int way, int what) {
        if (!isGustWay(gust, way) || what < 0 || what > 1) {
            return NONE;
        }
        Fall f = fallOf(state, gust, way);
        return what == 0 ? f.order.size() : f.rounds;
    }

    int fallen(int gust, int way, int i) {
        if (!isGustWay(gust, way)) {
            return NONE;
        }
        Fall f = fallOf(state, gust, way);
        return i < 0 || i >= f.order.size() ? NONE : f.order.get(i);
    }

    int round(int n, int gust, int way) {
        return !isTile(n) || !isGustWay(gust, way) ? NONE : fallOf(state, gust, way).round.getOrDefault(n, -2);
    }

    int lands(int n, int gust, int way) {
        return !isTile(n) || !isGustWay(gust, way) ? NONE : fallOf(state, gust, way).cell.getOrDefault(n, -2);
    }

    int blow(int gust, int way) {
        if (!isGustWay(gust, way)) {
            return NONE;
        }
        Fall f = fallOf(state, gust, way);
        for (int n : f.order) {
            state.tiles.get(n).there = false;
            state.yard.merge(f.cell.get(n), 1, Integer::sum);
            for (int[] car : state.cars) {
                car[1] += car[0] == f.cell.get(n) ? 1 : 0;
            }
        }
        return f.order.size();
    }

    private static boolean isCell(int cell) {
        return cell >= 0 && String.format("%04d", cell).matches("[0-3][0-5][01][0-9]");
    }

    int yard(int cell) {
        return isCell(cell) ? state.yard.getOrDefault(cell, 0) : NONE;
    }

    int sweep() {
        int sum = 0;
        for (int n : state.yard.values()) {
            sum += n;
        }
        state.yard.clear();
        return sum;
    }

    int car(int cell) {
        if (!isCell(cell) || state.cars.size() == 8) {
            return NONE;
        }
        state.cars.add(new int[] {cell, 0});
        return state.cars.size() - 1;
    }

    int hits(int car) {
        return car < 0 || car >= state.cars.size() ? NONE : state.cars.get(car)[1];
    }

    private static Map<Integer, Integer> heaps(Fall f) {
        Map<Integer, Integer> heaps = new TreeMap<>();
        for (int n : f.order) {
            heaps.merge(f.cell.get(n), 1, Integer::sum);
        }
        return heaps;
    }

    int worst(int gust, int way) {
        if (!isGustWay(gust, way)) {
            return NONE;
        }
        int best = -2;
        int most = 0;
        for (Map.Entry<Integer, Integer> heap : heaps(fallOf(state, gust, way)).entrySet()) {
            if (heap.getValue() > most) {
                most = heap.getValue();
                best = heap.getKey();
            }
        }
        return best;
    }

    // ---- plans

    int gust(int gust, int way, int weight) {
        if (state.gusts.size() == 4 || !isGustWay(gust, way) || weight < 1 || weight > 9) {
            return NONE;
        }
        Gust g = new Gust();
        g.gust = gust;
        g.way = way;
        g.weight = weight;
        state.gusts.add(g);
        return state.gusts.size() - 1;
    }

    int calm() {
        int n = state.gusts.size();
        state.gusts.clear();
        return n;
    }

    private int harmOf(State s) {
        int sum = 0;
        for (Gust g : s.gusts) {
            sum += g.weight * fallOf(s, g.gust, g.way).order.size();
        }
        return sum;
    }

    int harm() {
        return harmOf(state);
    }

    int doors(int gust, int way) {
        if (!isGustWay(gust, way)) {
            return NONE;
        }
        long best = Long.MAX_VALUE;
        for (int bits = 0; bits < 1 << text.doors.size(); bits++) {
            State s = state.copy();
            for (int d = 0; d < text.doors.size(); d++) {
                s.open.set(d, (bits & 1 << d) != 0);
            }
            best = Math.min(best, (fallOf(s, gust, way).order.size() * 100L + Integer.bitCount(bits)) * 100L + bits);
        }
        return (int) (best % 100);
    }

    int helps(int door, int gust, int way) {
        if (!isDoor(door) || !isGustWay(gust, way)) {
            return -100;
        }
        State s = state.copy();
        s.open.set(door, !s.open.get(door));
        return fallOf(state, gust, way).order.size() - fallOf(s, gust, way).order.size();
    }

    int ever(int door, int way) {
        if (!isDoor(door) || way < 0 || way > 3) {
            return NONE;
        }
        for (int gust = 0; gust < 100; gust++) {
            if (helps(door, gust, way) >= 1) {
                return gust;
            }
        }
        return -2;
    }

    private State nailed(State from, List<Integer> which) {
        State s = from.copy();
        for (int n : which) {
            s.tiles.get(n).nailed = true;
            s.tiles.get(n).age = 0;
        }
        return s;
    }

    private List<Integer> candidates(State s) {
        List<Integer> all = new ArrayList<>();
        for (int n = 0; n < s.tiles.size(); n++) {
            if (s.tiles.get(n).there && !s.tiles.get(n).nailed) {
                all.add(n);
            }
        }
        return all;
    }

    private List<Integer> bestNails(int n) {
        List<Integer> best = List.of();
        int least = harm();
        List<List<Integer>> sets = new ArrayList<>();
        List<Integer> free = candidates(state);
        for (int a : free) {
            sets.add(List.of(a));
        }
        for (int a : free) {
            for (int b : free) {
                if (a < b) {
                    sets.add(List.of(a, b));
                }
            }
        }
        for (List<Integer> set : sets) {
            if (set.size() <= n) {
                int harm = harmOf(nailed(state, set));
                if (harm < least) {
                    least = harm;
                    best = set;
                }
            }
        }
        return best;
    }

    int nailing(int n) {
        return n < 0 || n > 2 ? NONE : harmOf(nailed(state, bestNails(n)));
    }

    int nailingAt(int n, int i) {
        if (n < 0 || n > 2) {
            return NONE;
        }
        List<Integer> best = bestNails(n);
        return i < 0 || i >= best.size() ? NONE : best.get(i);
    }

    private List<Integer> steps(int n) {
        List<Integer> chosen = new ArrayList<>();
        State s = state.copy();
        while (chosen.size() < n) {
            int best = -1;
            int least = Integer.MAX_VALUE;
            for (int t : candidates(s)) {
                int harm = harmOf(nailed(s, List.of(t)));
                if (harm < least) {
                    least = harm;
                    best = t;
                }
            }
            if (best < 0 || least >= harmOf(s)) {
                return chosen;
            }
            s = nailed(s, List.of(best));
            chosen.add(best);
        }
        return chosen;
    }

    int onebyone(int n) {
        return n < 0 || n > 12 ? NONE : harmOf(nailed(state, steps(n)));
    }

    int onebyoneAt(int n, int i) {
        if (n < 0 || n > 12) {
            return NONE;
        }
        List<Integer> chosen = steps(n);
        return i < 0 || i >= chosen.size() ? NONE : chosen.get(i);
    }

    int without(int what) {
        State s = state.copy();
        State felted = state.copy();
        State bare = state.copy();
        List<Integer> thirds = candidates(state);
        thirds.removeIf(n -> n % 3 != 0);
        for (Tile t : s.tiles) {
            t.moss = 0;
        }
        felted.felt = true;
        bare.felt = false;
        switch (what) {
            case 0: return harmOf(nailed(state, thirds));
            case 1: return harmOf(s) - harm();
            case 2: return harmOf(felted) - harmOf(bare);
            default: return -1000000;
        }
    }

    int neglect(int gust, int way) {
        if (!isGustWay(gust, way)) {
            return -100;
        }
        State s = state.copy();
        for (Tile t : s.tiles) {
            t.there = true;
            t.age = 0;
            t.moss = 0;
        }
        return fallOf(state, gust, way).order.size() - fallOf(s, gust, way).order.size();
    }

    private void drop(State s, int gust, int way) {
        for (int n : fallOf(s, gust, way).order) {
            s.tiles.get(n).there = false;
        }
    }

    int night(int many) {
        if (many < 1 || many > 36) {
            return NONE;
        }
        State s = state.copy();
        for (int i = 0; i <= 80; i++) {
            if (s.gone() >= many) {
                return i;
            }
            if (s.gusts.isEmpty()) {
                return -2;
            }
            Gust g = s.gusts.get(i % s.gusts.size());
            drop(s, g.gust, g.way);
        }
        return -2;
    }

    /** By whole numbers of any size, cut to 32 bits. */
    private static int lot(int n, int seed, int which) {
        long cut = 0xffffffffL;
        long h = seed & cut;
        for (long it : new long[] {16, which}) {
            h = BigInteger.valueOf(h ^ it).multiply(BigInteger.valueOf(1103515245)).add(BigInteger.valueOf(12345)).longValue() & cut;
            h = h ^ h / 32768;
        }
        return (int) (h / 2 % n);
    }

    private void year(State s, int seed, int y) {
        for (Tile t : s.tiles) {
            t.age = Math.min(99, t.age + 1);
        }
        drop(s, lot(100, seed, 2 * y), lot(4, seed, 2 * y + 1));
    }

    int years(int seed, int k) {
        if (k < 0 || k > 60) {
            return NONE;
        }
        State s = state.copy();
        for (int y = 0; y < k; y++) {
            year(s, seed, y);
        }
        return s.gone();
    }

    int lasts(int seed) {
        State s = state.copy();
        for (int y = 0; y < 60; y++) {
            year(s, seed, y);
            if (s.gone() > state.gone()) {
                return y;
            }
        }
        return -2;
    }

    int odds(int seed, int many, int k, int gone) {
        if (many < 1 || many > 50 || k < 0 || k > 60 || gone < 0 || gone > 36) {
            return NONE;
        }
        int n = 0;
        for (int i = 0; i < many; i++) {
            n += years(seed + i, k) >= gone ? 1 : 0;
        }
        return n;
    }

    int yardTells(int what) {
        if (what < 0 || what > 3) {
            return NONE;
        }
        State whole = state.copy();
        for (Tile t : whole.tiles) {
            t.there = true;
        }
        int[] best = {0, 0, Integer.MAX_VALUE, -2};
        for (int gust = 0; gust < 100; gust++) {
            for (int way = 0; way < 4; way++) {
                Fall f = fallOf(whole, gust, way);
                Map<Integer, Integer> apart = new TreeMap<>(state.yard);
                heaps(f).forEach((cell, n) -> apart.merge(cell, -n, Integer::sum));
                int sum = 0;
                for (int n : apart.values()) {
                    sum += Math.abs(n);
                }
                if (sum < best[2]) {
                    best = new int[] {gust, way, sum, f.order.isEmpty() ? -2 : f.order.get(0)};
                }
            }
        }
        return best[what];
    }

    // ---- the village

    private static boolean isHouse(int age, int way, int nails) {
        return age >= 0 && age <= 99 && way >= 0 && way <= 3 && nails >= 0 && nails <= 9;
    }

    int house(int age, int way, int nails, int lost) {
        if (facts.size() == 60 || !isHouse(age, way, nails) || lost < 0 || lost > 99) {
            return NONE;
        }
        Fact f = new Fact();
        f.age = age;
        f.way = way;
        f.nails = nails;
        f.lost = lost;
        facts.add(f);
        return facts.size() - 1;
    }

    int annul(int fact) {
        if (facts.size() == 60 || fact < 0 || fact >= facts.size() || facts.get(fact).names != NONE) {
            return NONE;
        }
        Fact f = new Fact();
        f.names = fact;
        facts.add(f);
        return facts.size() - 1;
    }

    private boolean warns(int age, int way, int nails) {
        return text.some("warn", Map.of("age", age, "way", way, "nails", nails));
    }

    int warned(int age, int way, int nails) {
        return !isHouse(age, way, nails) ? NONE : warns(age, way, nails) ? 1 : 0;
    }

    private List<Fact> known(int n) {
        List<Fact> all = new ArrayList<>();
        for (int i = 0; i < n; i++) {
            boolean in = facts.get(i).names == NONE;
            for (int j = 0; j < n; j++) {
                in &= facts.get(j).names != i;
            }
            if (in) {
                all.add(facts.get(i));
            }
        }
        return all;
    }

    private boolean isKnown(int n, int c) {
        return n >= 0 && n <= facts.size() && c >= 0 && c <= 99;
    }

    private int[] tally(int n, int c) {
        int[] sums = new int[4];
        for (Fact f : known(n)) {
            boolean u = warns(f.age, f.way, f.nails);
            boolean t = f.lost >= c;
            sums[0]++;
            sums[1] += u ? 1 : 0;
            sums[2] += t ? 1 : 0;
            sums[3] += u && t ? 1 : 0;
        }
        return sums;
    }

    int village(int n, int c, int what) {
        return !isKnown(n, c) || what < 0 || what > 3 ? NONE : tally(n, c)[what];
    }

    /** By counting, house for house: ways[taken][of the t]. */
    long villageWays(int n, int c, boolean more) {
        if (!isKnown(n, c)) {
            return NONE;
        }
        int[] sums = tally(n, c);
        long[][] ways = new long[62][62];
        ways[0][0] = 1;
        for (int h = 0; h < sums[0]; h++) {
            int hurt = h < sums[2] ? 1 : 0;
            for (int taken = 60; taken >= 0; taken--) {
                for (int both = 60; both >= 0; both--) {
                    ways[taken + 1][both + hurt] += ways[taken][both];
                }
            }
        }
        long sum = 0;
        for (int both = more ? sums[3] : 0; both < 62; both++) {
            sum += ways[sums[1]][both];
        }
        return sum;
    }

    int line(int n, int c, boolean right) {
        if (!isKnown(n, c)) {
            return NONE;
        }
        int[] rights = new int[101];
        for (int x = 0; x <= 100; x++) {
            for (Fact f : known(n)) {
                rights[x] += f.age >= x && f.lost >= c || f.age < x && f.lost < c ? 1 : 0;
            }
        }
        int most = Arrays.stream(rights).max().getAsInt();
        int x = 0;
        while (rights[x] < most) {
            x++;
        }
        return right ? most : x;
    }

    // ---- slots

    boolean hold(int slot) {
        if (slot < 0 || slot > 2) {
            return false;
        }
        slots[slot] = state.copy();
        return true;
    }

    boolean restore(int slot) {
        if (slot < 0 || slot > 2 || slots[slot] == null) {
            return false;
        }
        state = slots[slot].copy();
        return true;
    }

    int count(int what) {
        int held = 0;
        for (State s : slots) {
            held += s == null ? 0 : 1;
        }
        switch (what) {
            case 0: return text.rows;
            case 1: return text.cols;
            case 2: return text.faces;
            case 3: return text.doors.size();
            case 4: return state.tiles.size() - state.gone();
            case 5: return facts.size();
            case 6: return state.cars.size();
            case 7: return state.gusts.size();
            case 8: return tape.length();
            case 9: return held;
            case 10: return text.rules.get("nailed").size();
            case 11: return text.rules.get("clipped").size();
            case 12: return text.rules.get("warn").size();
            case 13: return text.amounts.get("weigh");
            case 14: return text.amounts.get("lap");
            case 15: return text.amounts.get("nail");
            case 16: return text.amounts.get("clip");
            default: return NONE;
        }
    }
}
