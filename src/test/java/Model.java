import java.math.BigInteger;
import java.nio.charset.StandardCharsets;
import java.util.ArrayDeque;
import java.util.ArrayList;
import java.util.Arrays;
import java.util.Deque;
import java.util.HashMap;
import java.util.HashSet;
import java.util.LinkedHashMap;
import java.util.List;
import java.util.Map;
import java.util.Set;
import java.util.TreeSet;
import java.util.function.IntPredicate;

/**
 * The document once more, as plainly as the whole Java library lets one say it, and by other ways
 * than the class goes: what both answer in random runs is compared.
 */
public final class Model {

    /** What a STRAND bears, by strong, grounds, burden, needs and day. */
    interface Expr {
        int of(int strong, int grounds, int burden, int needs, int day);
    }

    record Point(String name, boolean fact, int needs) { }

    record Strand(int from, int to, int strong) { }

    static final class Fault extends Exception {
        private static final long serialVersionUID = 1L;
        final int kind;
        final int place;

        Fault(int kind, int place) {
            super(kind + " at " + place);
            this.kind = kind;
            this.place = place;
        }
    }

    /** A text, read. */
    static final class Suit {
        private static final Set<String> RESERVED = Set.of("fact", "claim", "needs", "strand", "strong", "bears", "fray",
                "draw", "or", "and", "not", "grounds", "burden", "day");
        final List<Point> points = new ArrayList<>();
        final List<Strand> strands = new ArrayList<>();
        int fray;
        int draw;
        Expr bears = (strong, grounds, burden, needs, day) -> strong;
        int units;
        private final String text;
        private final List<String> words = new ArrayList<>();
        private final List<Integer> places = new ArrayList<>();
        private int i;

        Suit(String text) throws Fault {
            this.text = text;
            cutUp();
            Set<String> once = new HashSet<>();
            while (!word().isEmpty()) {
                int begin = place();
                String first = word();
                if (!List.of("fact", "claim", "strand", "bears", "fray", "draw").contains(first)) {
                    throw wrong();
                }
                boolean point = first.equals("fact") || first.equals("claim");
                if (point && points.size() == 10 || first.equals("strand") && strands.size() == 12
                        || !point && !first.equals("strand") && !once.add(first)) {
                    throw new Fault(2, begin);
                }
                i++;
                switch (first) {
                    case "fact" -> points.add(new Point(newName(), true, 0));
                    case "claim" -> {
                        String name = newName();
                        take("needs");
                        points.add(new Point(name, false, number(1, 99)));
                    }
                    case "strand" -> strandLine();
                    case "bears" -> bears = either(0);
                    case "fray" -> fray = number(0, 100);
                    default -> draw = number(0, 999);
                }
                take(";");
            }
        }

        /** An empty word is the end; one that begins with ! is no TOKEN. */
        private void cutUp() {
            int p = 0;
            while (p < text.length()) {
                char c = text.charAt(p);
                int q = p + 1;
                String found;
                if (c == ' ' || c == '\n') {
                    p++;
                    continue;
                }
                if (Character.toString(c).matches("[a-z]")) {
                    while (q < text.length() && text.substring(q, q + 1).matches("[a-z]")) {
                        q++;
                    }
                    found = q - p <= 8 ? text.substring(p, q) : "!";
                } else if (Character.toString(c).matches("[0-9]")) {
                    while (q < text.length() && text.substring(q, q + 1).matches("[0-9]")) {
                        q++;
                    }
                    boolean letter = q < text.length() && text.substring(q, q + 1).matches("[a-z]");
                    found = q - p <= 4 && !letter ? text.substring(p, q) : "!";
                } else {
                    found = ";()<>=+-*/%".indexOf(c) >= 0 ? Character.toString(c) : "!";
                }
                words.add(found);
                places.add(p);
                p = q;
            }
            words.add("");
            places.add(text.length());
        }

        private String word() {
            return words.get(i);
        }

        private int place() {
            return places.get(i);
        }

        private Fault wrong() {
            return new Fault(word().equals("!") ? 1 : 2, place());
        }

        private void take(String due) throws Fault {
            if (!word().equals(due)) {
                throw wrong();
            }
            i++;
        }

        private boolean isName() {
            return word().matches("[a-z]+") && !RESERVED.contains(word());
        }

        private int find(String name) {
            for (int p = 0; p < points.size(); p++) {
                if (points.get(p).name().equals(name)) {
                    return p;
                }
            }
            return -1;
        }

        private String newName() throws Fault {
            if (!isName()) {
                throw wrong();
            }
            if (find(word()) >= 0) {
                throw new Fault(3, place());
            }
            return words.get(i++);
        }

        private int oldName() throws Fault {
            if (!isName()) {
                throw wrong();
            }
            if (find(word()) < 0) {
                throw new Fault(5, place());
            }
            return find(words.get(i++));
        }

        private int number(int least, int most) throws Fault {
            if (!word().matches("[0-9]+")) {
                throw wrong();
            }
            int value = Integer.parseInt(word());
            if (value < least || value > most) {
                throw new Fault(4, place());
            }
            i++;
            return value;
        }

        private void strandLine() throws Fault {
            int from = oldName();
            int second = place();
            int to = oldName();
            boolean told = strands.stream().anyMatch(s -> s.from() == from && s.to() == to);
            if (from == to || points.get(to).fact() || told) {
                throw new Fault(3, second);
            }
            take("strong");
            strands.add(new Strand(from, to, number(1, 20)));
        }

        private Expr either(int within) throws Fault {
            Expr left = both(within);
            while (word().equals("or")) {
                i++;
                left = join("or", left, both(within));
            }
            return left;
        }

        private Expr both(int within) throws Fault {
            Expr left = one(within);
            while (word().equals("and")) {
                i++;
                left = join("and", left, one(within));
            }
            return left;
        }

        private Expr one(int within) throws Fault {
            if (word().equals("not")) {
                if (within == 7) {
                    throw new Fault(2, place());
                }
                i++;
                Expr inner = one(within + 1);
                return (s, g, b, n, d) -> inner.of(s, g, b, n, d) == 0 ? 1 : 0;
            }
            Expr left = sum(within);
            if (word().matches("[<>=]")) {
                String sign = words.get(i++);
                left = join(sign, left, sum(within));
            }
            return left;
        }

        private Expr sum(int within) throws Fault {
            Expr left = term(within);
            while (word().matches("[-+]")) {
                String sign = words.get(i++);
                left = join(sign, left, term(within));
            }
            return left;
        }

        private Expr term(int within) throws Fault {
            Expr left = unit(within);
            while (word().matches("[*/%]")) {
                String sign = words.get(i++);
                left = join(sign, left, unit(within));
            }
            return left;
        }

        private Expr unit(int within) throws Fault {
            String first = word();
            if (!first.matches("[0-9]+|strong|grounds|burden|needs|day|\\(")) {
                throw wrong();
            }
            if (units == 30 || first.equals("(") && within == 7) {
                throw new Fault(2, place());
            }
            units++;
            i++;
            switch (first) {
                case "strong":
                    return (s, g, b, n, d) -> s;
                case "grounds":
                    return (s, g, b, n, d) -> g;
                case "burden":
                    return (s, g, b, n, d) -> b;
                case "needs":
                    return (s, g, b, n, d) -> n;
                case "day":
                    return (s, g, b, n, d) -> d;
                case "(":
                    Expr inner = either(within + 1);
                    take(")");
                    return inner;
                default:
                    int value = Integer.parseInt(first);
                    return (s, g, b, n, d) -> value;
            }
        }

        private static Expr join(String sign, Expr left, Expr right) {
            return (s, g, b, n, d) -> {
                int x = left.of(s, g, b, n, d);
                int y = right.of(s, g, b, n, d);
                return switch (sign) {
                    case "or" -> x != 0 || y != 0 ? 1 : 0;
                    case "and" -> x != 0 && y != 0 ? 1 : 0;
                    case "<" -> x < y ? 1 : 0;
                    case ">" -> x > y ? 1 : 0;
                    case "=" -> x == y ? 1 : 0;
                    case "+" -> (int) ((long) x + y);
                    case "-" -> (int) ((long) x - y);
                    case "*" -> (int) ((long) x * y);
                    case "/" -> y == 0 ? 0 : (int) ((long) x / y);
                    default -> y == 0 ? 0 : (int) ((long) x % y);
                };
            };
        }
    }

    /** All that ACTS change; never changed itself. */
    record State(List<Integer> strong, int tied, int struck, int day, int seed) {
        State withTied(int other) {
            return new State(strong, other, struck, day, seed);
        }

        State withStruck(int other) {
            return new State(strong, tied, other, day, seed);
        }

        State withDay(int other) {
            return new State(strong, tied, struck, other, seed);
        }

        State withStrong(int strand, int much) {
            List<Integer> other = new ArrayList<>(strong);
            other.set(strand, much);
            return new State(other, tied, struck, day, seed);
        }

        State withSeed(int other) {
            return new State(strong, tied, struck, day, other);
        }
    }

    record Told(int claim, boolean is, int from, int[] until) { }

    private static final int NONE = -1;

    private String tape = "";
    private Suit suit;
    private int fault;
    private int faultPlace = NONE;
    private State now;
    private final Deque<State> past = new ArrayDeque<>();
    private final Deque<State> future = new ArrayDeque<>();
    private final Map<Integer, State> boxes = new HashMap<>();
    private List<Integer> lying = List.of();
    private final List<Told> told = new ArrayList<>();
    private int time;

    public Model() {
        try {
            suit = new Suit("");
        } catch (Fault never) {
            throw new IllegalStateException(never);
        }
        now = asTold();
    }

    private State asTold() {
        return new State(suit.strands.stream().map(Strand::strong).toList(), (1 << suit.strands.size()) - 1, 0, 0, suit.draw);
    }

    // ---- what STANDS ----

    private boolean isPoint(int p) {
        return p >= 0 && p < suit.points.size();
    }

    private boolean isClaim(int p) {
        return isPoint(p) && !suit.points.get(p).fact();
    }

    private boolean isFact(int p) {
        return isPoint(p) && suit.points.get(p).fact();
    }

    private boolean isStrand(int s) {
        return s >= 0 && s < suit.strands.size();
    }

    private static boolean in(int set, int member) {
        return (set & 1 << member) != 0;
    }

    private static boolean isWhat(int what) {
        return what == 0 || what == 1;
    }

    private int needsOf(int claim, Map<Integer, Integer> others) {
        return others.getOrDefault(claim, suit.points.get(claim).needs());
    }

    private int bears(State state, int s, Map<Integer, Integer> others) {
        if (!in(state.tied(), s) || state.strong().get(s) == 0) {
            return 0;
        }
        Strand it = suit.strands.get(s);
        int grounds = 0;
        int burden = 0;
        for (int t = 0; t < suit.strands.size(); t++) {
            if (in(state.tied(), t)) {
                grounds += suit.strands.get(t).to() == it.to() ? 1 : 0;
                burden += suit.strands.get(t).from() == it.from() ? 1 : 0;
            }
        }
        int comes = suit.bears.of(state.strong().get(s), grounds, burden, needsOf(it.to(), others), state.day());
        return comes < 0 ? 0 : comes > 999 ? 999 : comes;
    }

    private int[] loads(State state, Map<Integer, Integer> others) {
        int[] row = new int[suit.strands.size()];
        for (int s = 0; s < row.length; s++) {
            row[s] = bears(state, s, others);
        }
        return row;
    }

    private int borneTo(int claim, int points, int[] loads) {
        int sum = 0;
        for (int s = 0; s < loads.length; s++) {
            if (suit.strands.get(s).to() == claim && in(points, suit.strands.get(s).from())) {
                sum += loads[s];
            }
        }
        return sum;
    }

    private int proved(State state) {
        int set = 0;
        for (int p = 0; p < suit.points.size(); p++) {
            set |= isFact(p) && !in(state.struck(), p) ? 1 << p : 0;
        }
        return set;
    }

    private int claimBits() {
        int set = 0;
        for (int p = 0; p < suit.points.size(); p++) {
            set |= isClaim(p) ? 1 << p : 0;
        }
        return set;
    }

    private int standing(State state) {
        return standing(state, Map.of());
    }

    private int standing(State state, Map<Integer, Integer> others) {
        int up = 0;
        for (int rank : ranks(state, others).keySet()) {
            up |= 1 << rank;
        }
        return up;
    }

    /** POINT to RANK, of what STANDS. */
    private Map<Integer, Integer> ranks(State state, Map<Integer, Integer> others) {
        int[] loads = loads(state, others);
        Map<Integer, Integer> ranks = new LinkedHashMap<>();
        int up = proved(state);
        for (int p = 0; p < suit.points.size(); p++) {
            if (in(up, p)) {
                ranks.put(p, 0);
            }
        }
        for (int round = 1; true; round++) {
            int more = up;
            for (int p = 0; p < suit.points.size(); p++) {
                if (isClaim(p) && !in(up, p) && borneTo(p, up, loads) >= needsOf(p, others)) {
                    more |= 1 << p;
                    ranks.put(p, round);
                }
            }
            if (more == up) {
                return ranks;
            }
            up = more;
        }
    }

    /** STANDS by the words "nothing else but by this": what is in each set that holds what it must. */
    int standingBySets() {
        int[] loads = loads(now, Map.of());
        int all = (1 << suit.points.size()) - 1;
        int common = all;
        for (int set = 0; set <= all; set++) {
            boolean closed = (proved(now) & ~set) == 0;
            for (int p = 0; p < suit.points.size(); p++) {
                closed &= !isClaim(p) || in(set, p) || borneTo(p, set, loads) < suit.points.get(p).needs();
            }
            if (closed) {
                common &= set;
            }
        }
        return common;
    }

    /** The union of all sets that bear themselves with the facts is the greatest of them. */
    private int greatest() {
        int[] loads = loads(now, Map.of());
        int facts = proved(now);
        int union = 0;
        for (int set = 0; set <= claimBits(); set++) {
            if ((set & ~claimBits()) == 0 && bearItself(set, facts, loads)) {
                union |= set;
            }
        }
        return facts | union;
    }

    private boolean bearItself(int set, int besides, int[] loads) {
        for (int p = 0; p < suit.points.size(); p++) {
            if (in(set, p) && borneTo(p, set & ~(1 << p) | besides, loads) < suit.points.get(p).needs()) {
                return false;
            }
        }
        return true;
    }

    private int claimsUp(State state) {
        return Integer.bitCount(standing(state) & claimBits());
    }

    private boolean up(int claim, int tied) {
        return in(standing(now.withTied(tied)), claim);
    }

    private State nextDay(State state) {
        State s = state.withDay(state.day() + 1);
        for (int i = 0; i < suit.strands.size(); i++) {
            if (in(s.tied(), i) && s.strong().get(i) > 0) {
                s = s.withSeed((s.seed() * 137 + 71) % 1000);
                if (s.seed() % 100 < suit.fray) {
                    s = s.withStrong(i, s.strong().get(i) - 1);
                }
            }
        }
        return s;
    }

    // ---- promises 2 to 7 ----

    public int feed(int a, int b, int c, int d, int e) {
        if (tape.length() + 20 > 1600) {
            return NONE;
        }
        java.nio.ByteBuffer buffer = java.nio.ByteBuffer.allocate(20);
        buffer.putInt(a).putInt(b).putInt(c).putInt(d).putInt(e);
        tape += new String(buffer.array(), StandardCharsets.ISO_8859_1);
        return tape.length();
    }

    public int end(int n) {
        if (n < 0 || n > tape.length()) {
            return NONE;
        }
        tape = tape.substring(0, n);
        return n;
    }

    public int suit() {
        try {
            suit = new Suit(tape);
        } catch (Fault found) {
            fault = found.kind;
            faultPlace = found.place;
            return NONE;
        }
        fault = 0;
        faultPlace = NONE;
        tape = "";
        now = asTold();
        past.clear();
        future.clear();
        told.clear();
        boxes.clear();
        lying = List.of();
        return suit.points.size();
    }

    public int fault(int what) {
        return what == 0 ? fault : what == 1 ? faultPlace : NONE;
    }

    public int point(int point, int what) {
        if (!isPoint(point) || what < 0 || what > 4) {
            return NONE;
        }
        int to = 0;
        int from = 0;
        for (int s = 0; s < suit.strands.size(); s++) {
            to |= suit.strands.get(s).to() == point ? 1 << s : 0;
            from |= suit.strands.get(s).from() == point ? 1 << s : 0;
        }
        return new int[] {isFact(point) ? 1 : 0, suit.points.get(point).needs(), in(now.struck(), point) ? 1 : 0, to, from}[what];
    }

    public int strand(int strand, int what) {
        if (!isStrand(strand) || what < 0 || what > 4) {
            return NONE;
        }
        Strand it = suit.strands.get(strand);
        return new int[] {it.from(), it.to(), now.strong().get(strand), in(now.tied(), strand) ? 1 : 0,
            bears(now, strand, Map.of())}[what];
    }

    // ---- ACTS ----

    private void act(State then) {
        past.push(now);
        if (past.size() > 40) {
            past.removeLast();
        }
        future.clear();
        now = then;
    }

    public int cut(int strand) {
        if (!isStrand(strand) || !in(now.tied(), strand)) {
            return NONE;
        }
        act(now.withTied(now.tied() & ~(1 << strand)));
        return claimsUp(now);
    }

    public int tie(int strand) {
        if (!isStrand(strand) || in(now.tied(), strand)) {
            return NONE;
        }
        act(now.withTied(now.tied() | 1 << strand));
        return claimsUp(now);
    }

    public int tighten(int strand, int strong) {
        if (!isStrand(strand) || strong < 0 || strong > 20 || now.strong().get(strand) == strong) {
            return NONE;
        }
        int was = now.strong().get(strand);
        act(now.withStrong(strand, strong));
        return was;
    }

    public int strike(int fact) {
        if (!isFact(fact) || in(now.struck(), fact)) {
            return NONE;
        }
        act(now.withStruck(now.struck() | 1 << fact));
        return claimsUp(now);
    }

    public int prove(int fact) {
        if (!isFact(fact) || !in(now.struck(), fact)) {
            return NONE;
        }
        act(now.withStruck(now.struck() & ~(1 << fact)));
        return claimsUp(now);
    }

    public int day() {
        if (now.day() == 999) {
            return NONE;
        }
        State before = now;
        act(nextDay(now));
        int frayed = 0;
        for (int s = 0; s < suit.strands.size(); s++) {
            frayed |= now.strong().get(s) < before.strong().get(s) ? 1 << s : 0;
        }
        return frayed;
    }

    public boolean undo() {
        if (past.isEmpty()) {
            return false;
        }
        future.push(now);
        now = past.pop();
        return true;
    }

    public boolean redo() {
        if (future.isEmpty()) {
            return false;
        }
        past.push(now);
        now = future.pop();
        return true;
    }

    // ---- promises 16 to 19 ----

    public int stands() {
        return standing(now);
    }

    public int tight() {
        return greatest();
    }

    public int hollow() {
        return greatest() & ~standing(now);
    }

    public int will(int n, int what) {
        if (n < 0 || n > 60 || !isWhat(what)) {
            return NONE;
        }
        State state = now;
        for (int i = 0; i < n; i++) {
            state = what == 1 ? nextDay(state) : state.withDay(state.day() + 1);
        }
        return standing(state);
    }

    // ---- sets ----

    /** By size, then by number: the first that will do. */
    private static int firstSet(int of, IntPredicate good) {
        List<Integer> sets = new ArrayList<>();
        for (int set = 0; set <= of; set++) {
            if ((set & ~of) == 0) {
                sets.add(set);
            }
        }
        sets.sort((x, y) -> Integer.bitCount(x) != Integer.bitCount(y) ? Integer.bitCount(x) - Integer.bitCount(y) : x - y);
        for (int set : sets) {
            if (good.test(set)) {
                return set;
            }
        }
        return NONE;
    }

    private static int sized(int set, int what) {
        return set == NONE || !isWhat(what) ? NONE : what == 0 ? Integer.bitCount(set) : set;
    }

    public int topple(int claim, int what) {
        return isClaim(claim) ? sized(firstSet(now.tied(), set -> !up(claim, now.tied() & ~set)), what) : NONE;
    }

    private int propSet(int claim) {
        return isClaim(claim) && in(standing(now), claim) ? firstSet(now.tied(), set -> up(claim, set)) : NONE;
    }

    public int prop(int claim, int what) {
        return sized(propSet(claim), what);
    }

    public int pivots(int claim) {
        if (!isClaim(claim)) {
            return NONE;
        }
        int found = 0;
        for (int s = 0; s < suit.strands.size(); s++) {
            boolean pivot = in(now.tied(), s) && up(claim, now.tied()) && !up(claim, now.tied() & ~(1 << s));
            found |= pivot ? 1 << s : 0;
        }
        return found;
    }

    public int power(int claim, int strand) {
        if (!isClaim(claim) || !isStrand(strand) || !in(now.tied(), strand)) {
            return NONE;
        }
        int found = 0;
        int rest = now.tied() & ~(1 << strand);
        for (int set = rest; set >= 0; set = set == 0 ? -1 : set - 1 & rest) {
            found += up(claim, set | 1 << strand) && !up(claim, set) ? 1 : 0;
        }
        return found;
    }

    public int lack(int claim) {
        return isClaim(claim) ? Math.max(0, suit.points.get(claim).needs() - borneTo(claim, standing(now), loads(now, Map.of()))) : NONE;
    }

    public int rank(int point) {
        return ranks(now, Map.of()).getOrDefault(point, NONE);
    }

    public int ring(int what) {
        int[] loads = loads(now, Map.of());
        return sized(firstSet(claimBits(), set -> set != 0 && bearItself(set, 0, loads)), what);
    }

    public int moot(int claim, int n, int what) {
        if (!isClaim(claim) || n < 1 || n > 3 || !isWhat(what)) {
            return -2;
        }
        int[] best = bestMove(claim, now.tied(), n, false);
        return best[what];
    }

    /** What comes of it, and the move. */
    private int[] bestMove(int claim, int tied, int left, boolean forIt) {
        if (left == 0) {
            return new int[] {up(claim, tied) ? 1 : 0, NONE};
        }
        int[] best = null;
        for (int move = -1; move < suit.strands.size(); move++) {
            int comes = bestMove(claim, move < 0 ? tied : tied ^ 1 << move, left - 1, !forIt)[0];
            if (best == null || (forIt ? comes > best[0] : comes < best[0])) {
                best = new int[] {comes, move};
            }
        }
        return best;
    }

    public int fall(int claim) {
        for (int n = 0; n <= 60 && isClaim(claim); n++) {
            if (!in(standing(now.withDay(now.day() + n)), claim)) {
                return n;
            }
        }
        return NONE;
    }

    public int keystone(int what) {
        int best = NONE;
        for (int f = suit.points.size() - 1; f >= 0; f--) {
            if (in(proved(now), f) && (best == NONE || claimsWithout(f) <= claimsWithout(best))) {
                best = f;
            }
        }
        return best == NONE || !isWhat(what) ? NONE : what == 0 ? best : claimsWithout(best);
    }

    private int claimsWithout(int fact) {
        return claimsUp(now.withStruck(now.struck() | 1 << fact));
    }

    public int holds(int fact) {
        if (!isFact(fact) || in(now.struck(), fact)) {
            return NONE;
        }
        return claimBits() & standing(now) & ~standing(now.withStruck(now.struck() | 1 << fact));
    }

    public int spare() {
        int found = 0;
        for (int s = 0; s < suit.strands.size(); s++) {
            found |= in(now.tied(), s) && standing(now.withTied(now.tied() & ~(1 << s))) == standing(now) ? 1 << s : 0;
        }
        return found;
    }

    public int firmest(int what) {
        int up = standing(now) & claimBits();
        int best = NONE;
        for (int c = suit.points.size() - 1; c >= 0; c--) {
            if (in(up, c) && (best == NONE || beyond(c, up) >= beyond(best, up))) {
                best = c;
            }
        }
        return best == NONE || !isWhat(what) ? NONE : what == 0 ? best : beyond(best, up);
    }

    private int beyond(int claim, int up) {
        return borneTo(claim, up | proved(now), loads(now, Map.of())) - suit.points.get(claim).needs();
    }

    public int burdened() {
        int best = NONE;
        int most = -1;
        for (int p = 0; p < suit.points.size(); p++) {
            int lead = Integer.bitCount(point(p, 4) & now.tied());
            if (lead > most) {
                best = p;
                most = lead;
            }
        }
        return best;
    }

    private int distance(int from, int to) {
        Deque<Integer> queue = new ArrayDeque<>(List.of(from));
        Map<Integer, Integer> far = new HashMap<>(Map.of(from, 0));
        while (!queue.isEmpty()) {
            int at = queue.remove();
            for (int s = 0; s < suit.strands.size(); s++) {
                Strand it = suit.strands.get(s);
                if (in(now.tied(), s) && it.from() == at && !far.containsKey(it.to())) {
                    far.put(it.to(), far.get(at) + 1);
                    queue.add(it.to());
                }
            }
        }
        return far.getOrDefault(to, NONE);
    }

    public int roots(int claim) {
        int found = 0;
        for (int f = 0; f < suit.points.size(); f++) {
            found |= isFact(f) && isClaim(claim) && distance(f, claim) != NONE ? 1 << f : 0;
        }
        return isClaim(claim) ? found : NONE;
    }

    public int law(int n) {
        if (n < 0 || n > 99) {
            return NONE;
        }
        Map<Integer, Integer> others = new HashMap<>();
        for (int c = 0; c < suit.points.size(); c++) {
            others.put(c, n);
        }
        return Integer.bitCount(standing(now, others) & claimBits());
    }

    public int worth(int claim) {
        int most = NONE;
        for (int n = 0; n <= 99 && isClaim(claim); n++) {
            most = in(standing(now, Map.of(claim, n)), claim) ? n : most;
        }
        return most;
    }

    public int with(int strands) {
        return strands < 0 || strands >= 1 << suit.strands.size() ? NONE : standing(now.withTied(strands));
    }

    public int perils(int claim, int what) {
        if (!isClaim(claim) || !isWhat(what) || !up(claim, now.tied())) {
            return NONE;
        }
        int found = 0;
        for (int s = 0; s < suit.strands.size(); s++) {
            for (int t = what == 0 ? s : s + 1; t < (what == 0 ? s + 1 : suit.strands.size()); t++) {
                boolean both = in(now.tied(), s) && in(now.tied(), t);
                found += both && !up(claim, now.tied() & ~(1 << s) & ~(1 << t)) ? 1 : 0;
            }
        }
        return found;
    }

    public int mend(int claim, int what) {
        int cut = (1 << suit.strands.size()) - 1 & ~now.tied();
        return isClaim(claim) ? sized(firstSet(cut, set -> up(claim, now.tied() | set)), what) : NONE;
    }

    public int proof(int claim) {
        int set = propSet(claim);
        lying = List.of();
        if (set == NONE) {
            return NONE;
        }
        Map<Integer, Integer> ranks = ranks(now.withTied(set), Map.of());
        List<Integer> points = new ArrayList<>(ranks.keySet());
        points.sort((x, y) -> ranks.get(x) != ranks.get(y).intValue() ? ranks.get(x) - ranks.get(y) : x - y);
        lying = points;
        return points.size();
    }

    public int counsels(int claim, int other) {
        lying = List.of();
        if (claim == other || !isClaim(claim) || !isClaim(other) || now.tied() == 0) {
            return NONE;
        }
        int found = 0;
        for (int i = 0; i < suit.strands.size(); i++) {
            for (int j = 0; j < suit.strands.size(); j++) {
                if (in(now.tied(), i) && in(now.tied(), j) && rests(claim, other, i, j)) {
                    lying = found == 0 ? List.of(i, j) : lying;
                    found++;
                }
            }
        }
        return found;
    }

    private int gain(int own, int other, int i, int j) {
        int up = standing(now.withTied(now.tied() & ~(1 << i) & ~(1 << j)));
        return (in(up, own) ? 2 : 0) + (in(up, other) ? 0 : 1);
    }

    private boolean rests(int claim, int other, int i, int j) {
        for (int s = 0; s < suit.strands.size(); s++) {
            if (in(now.tied(), s) && (gain(claim, other, s, j) > gain(claim, other, i, j)
                    || gain(other, claim, i, s) > gain(other, claim, i, j))) {
                return false;
            }
        }
        return true;
    }

    public int path(int point, int claim) {
        return isPoint(point) && isClaim(claim) ? distance(point, claim) : NONE;
    }

    public int shock(int n) {
        if (n < 0 || n > 20) {
            return NONE;
        }
        return claimsUp(new State(now.strong().stream().map(s -> Math.max(0, s - n)).toList(), now.tied(), now.struck(), now.day(), now.seed()));
    }

    public int brings(int strand) {
        if (!isStrand(strand) || !in(now.tied(), strand)) {
            return NONE;
        }
        return standing(now) & ~standing(now.withTied(now.tied() & ~(1 << strand)));
    }

    public int gaps() {
        int found = claimBits();
        for (int s = 0; s < suit.strands.size(); s++) {
            found &= in(now.tied(), s) ? ~(1 << suit.strands.get(s).to()) : -1;
        }
        return found;
    }

    public int best(int claim) {
        int best = NONE;
        int[] loads = loads(now, Map.of());
        for (int s = loads.length - 1; s >= 0 && isClaim(claim); s--) {
            Strand it = suit.strands.get(s);
            if (it.to() == claim && in(standing(now), it.from()) && loads[s] > 0 && (best == NONE || loads[s] >= loads[best])) {
                best = s;
            }
        }
        return best;
    }

    public int depth() {
        return ranks(now, Map.of()).values().stream().mapToInt(r -> r).max().orElse(NONE);
    }

    public int weakest() {
        int best = NONE;
        int[] loads = loads(now, Map.of());
        for (int s = loads.length - 1; s >= 0; s--) {
            if (in(now.tied(), s) && (best == NONE || loads[s] <= loads[best])) {
                best = s;
            }
        }
        return best;
    }

    public int lies(int i) {
        return i >= 0 && i < lying.size() ? lying.get(i) : NONE;
    }

    public int odds(int n, int part) {
        if (n < 0 || n > 4 || !isWhat(part)) {
            return NONE;
        }
        BigInteger upper = BigInteger.valueOf(100 - suit.fray).pow(n);
        BigInteger lower = BigInteger.valueOf(100).pow(n);
        return (part == 0 ? upper : lower).divide(upper.gcd(lower)).intValueExact();
    }

    // ---- SEEN ----

    public int seen(int claim, boolean is) {
        if (!isClaim(claim) || told.size() == 30) {
            return NONE;
        }
        told.add(new Told(claim, is, time, new int[] {Integer.MAX_VALUE}));
        return told.size() - 1;
    }

    public boolean untell(int seen) {
        if (seen < 0 || seen >= told.size() || told.get(seen).until()[0] != Integer.MAX_VALUE) {
            return false;
        }
        told.get(seen).until()[0] = time;
        return true;
    }

    public int later(int by) {
        if (by < 0 || by > 1000 || time + by > 100000) {
            return NONE;
        }
        time += by;
        return time;
    }

    private List<Integer> waysAt(int k) {
        int n = suit.strands.size();
        Set<Integer> sets = new TreeSet<>(List.of(0));
        for (int i = 0; i < n; i++) {
            for (int j = 0; j < n; j++) {
                sets.add(1 << i | 1 << j);
            }
        }
        List<Integer> left = new ArrayList<>();
        for (int set : sets) {
            boolean so = true;
            for (Told one : told) {
                boolean counts = one.from() <= k && !(one.until()[0] != Integer.MAX_VALUE && one.until()[0] <= k);
                so &= !counts || in(stoodBy(set), one.claim()) == one.is();
            }
            if (so) {
                left.add(set);
            }
        }
        return left;
    }

    private int stoodBy(int cut) {
        State first = asTold();
        return standing(first.withTied(first.tied() & ~cut));
    }

    public int ways(int k) {
        return waysAt(k).size();
    }

    public int sure(int strand, int k) {
        List<Integer> ways = waysAt(k);
        if (ways.isEmpty() || !isStrand(strand)) {
            return NONE;
        }
        boolean all = ways.stream().allMatch(set -> in(set, strand));
        boolean none = ways.stream().noneMatch(set -> in(set, strand));
        return all ? 1 : none ? 0 : -2;
    }

    public int ask(int what, int k) {
        List<Integer> ways = waysAt(k);
        if (ways.isEmpty() || claimBits() == 0 || !isWhat(what)) {
            return NONE;
        }
        int best = NONE;
        int[] left = new int[suit.points.size()];
        Arrays.fill(left, Integer.MAX_VALUE);
        for (int c = 0; c < suit.points.size(); c++) {
            if (isClaim(c)) {
                int claim = c;
                int stood = (int) ways.stream().filter(set -> in(stoodBy(set), claim)).count();
                left[c] = Math.max(stood, ways.size() - stood);
                best = best == NONE || left[c] < left[best] ? c : best;
            }
        }
        return what == 0 ? best : left[best];
    }

    // ---- BOXES, about ----

    public int image(int box) {
        if (box < 0 || box > 2) {
            return NONE;
        }
        boxes.put(box, now);
        return now.day();
    }

    public int back(int box) {
        if (!boxes.containsKey(box)) {
            return NONE;
        }
        now = boxes.get(box);
        past.clear();
        future.clear();
        return now.day();
    }

    public int about(int what) {
        int facts = 0;
        for (int p = 0; p < suit.points.size(); p++) {
            facts |= isFact(p) ? 1 << p : 0;
        }
        int[] all = {suit.points.size(), suit.strands.size(), facts, now.struck(), now.tied(), now.day(), now.seed(), past.size(),
            future.size(), told.size(), time, tape.length(), suit.units, suit.fray, lying.size()};
        return what >= 0 && what < all.length ? all[what] : NONE;
    }
}
