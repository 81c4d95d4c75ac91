/**
 * Pleas as they go to law at Arachne: facts, claims, and the strands by which one bears another.
 *
 * <p>The words in capitals are those of the document (../shared/DOC.md). Sets of POINTS and of
 * STRANDS are bits of an int throughout, POINT or STRAND 0 being the lowest.
 */
public final class EightReasons {

    public static final int NONE = -1;

    /** For answers in which NONE means something else already. */
    private static final int OTHER = -2;

    private static final int MOST_BYTES = 1600;
    private static final int BYTES_FED = 20;
    private static final int MOST_POINTS = 10;
    private static final int MOST_STRANDS = 12;
    private static final int MOST_STRONG = 20;
    private static final int MOST_NEEDS = 99;
    private static final int MOST_FRAY = 100;
    private static final int MOST_DRAW = 999;
    private static final int MOST_BORNE = 999;
    private static final int MOST_ACTS = 40;
    private static final int MOST_DAYS = 999;
    private static final int MOST_DAYS_AHEAD = 60;
    private static final int MOST_MOVES = 3;
    private static final int MOST_ODDS_DAYS = 4;
    private static final int MOST_SEEN = 30;
    private static final int MOST_LATER = 1000;
    private static final int MOST_TIME = 100000;
    private static final int BOXES = 3;

    /** Sets of none, one or two of the most STRANDS: 1 + 12 + 66. */
    private static final int MOST_WAYS = 79;

    /** The document's 60 units in all can't be reached: bears is told once, and one e has 30. */
    private static final int MOST_UNITS = 30;

    private static final int MOST_WITHIN = 7;

    /** 30 units, 29 signs between them, and 7 times not before each unit. */
    private static final int MOST_CODE = 30 + 29 + 7 * 30;

    private static final int MOST_LETTERS = 8;
    private static final int MOST_DIGITS = 4;

    /** The words that are no NAMES, eight signs each, in the order of the numbers below. */
    private static final String WORDS = "fact    claim   needs   strand  strong  bears   fray    draw    or      and     not     grounds burden  day     ";

    private static final int FACT = 0;
    private static final int CLAIM = 1;
    private static final int NEEDS = 2;
    private static final int STRAND = 3;
    private static final int STRONG = 4;
    private static final int BEARS = 5;
    private static final int FRAY = 6;
    private static final int DRAW = 7;
    private static final int OR = 8;
    private static final int AND = 9;
    private static final int NOT = 10;
    private static final int GROUNDS = 11;
    private static final int BURDEN = 12;
    private static final int DAY = 13;
    private static final int NAME = 14;
    private static final int NUMBER = 15;
    private static final int END = 16;
    private static final int NO_TOKEN = 17;

    /** Signs are TOKENS by their own number, which is above all those of the words. */
    private static final String SIGNS = ";()<>=+-*/%";

    /** In a formula's code, what is not below this is a number, so much greater than it is. */
    private static final int FIRST_NUMBER = 1000;

    private static final int FAULT_TOKEN = 1;
    private static final int FAULT_PLACE = 2;
    private static final int FAULT_NAME = 3;
    private static final int FAULT_NUMBER = 4;
    private static final int FAULT_UNKNOWN = 5;

    private final Reader reader = new Reader();
    private Suit told = new Suit();

    private final Acts acts = new Acts();
    private final State trial = new State();
    private final State[] boxes = new State[BOXES];
    private int filled;

    private final Loom loom = new Loom();
    private final int[] outcomes = new int[MOST_STRANDS * MOST_STRANDS];

    private final int[] lying = new int[MOST_POINTS];
    private int lyingCount;

    private final Witness witness = new Witness();
    private final Ways open = new Ways();
    private int time;

    public EightReasons() {
        for (int i = 0; i < BOXES; i++) {
            boxes[i] = new State();
        }
    }

    // ---- the text ----

    public int feed(int a, int b, int c, int d, int e) {
        if (reader.bytes + BYTES_FED > MOST_BYTES) {
            return NONE;
        }
        reader.append(a);
        reader.append(b);
        reader.append(c);
        reader.append(d);
        reader.append(e);
        return reader.bytes;
    }

    public int end(int n) {
        if (n < 0 || n > reader.bytes) {
            return NONE;
        }
        reader.bytes = n;
        return n;
    }

    public int suit() {
        if (!reader.read()) {
            return NONE;
        }
        told = reader.exchange(told);
        reader.bytes = 0;
        acts.forget();
        now().startAs(told);
        filled = 0;
        witness.count = 0;
        lyingCount = 0;
        return told.points;
    }

    public int fault(int what) {
        if (what == 0) {
            return reader.fault;
        }
        return what == 1 ? reader.place : NONE;
    }

    // ---- what there is ----

    public int point(int point, int what) {
        if (!told.isPoint(point)) {
            return NONE;
        }
        switch (what) {
            case 0:
                return told.facts >> point & 1;
            case 1:
                return told.needs[point];
            case 2:
                return now().struck >> point & 1;
            case 3:
                return told.into[point];
            case 4:
                return told.from[point];
            default:
                return NONE;
        }
    }

    public int strand(int strand, int what) {
        if (!told.isStrand(strand)) {
            return NONE;
        }
        switch (what) {
            case 0:
                return told.source[strand];
            case 1:
                return told.target[strand];
            case 2:
                return now().strong[strand];
            case 3:
                return now().tied >> strand & 1;
            case 4:
                look();
                loom.weigh(now().tied);
                return loom.load[strand];
            default:
                return NONE;
        }
    }

    public int about(int what) {
        switch (what) {
            case 0:
                return told.points;
            case 1:
                return told.strands;
            case 2:
                return told.facts;
            case 3:
                return now().struck;
            case 4:
                return now().tied;
            case 5:
                return now().day;
            case 6:
                return now().seed;
            case 7:
                return acts.undoable;
            case 8:
                return acts.redoable;
            case 9:
                return witness.count;
            case 10:
                return time;
            case 11:
                return reader.bytes;
            case 12:
                return told.formula.units;
            case 13:
                return told.fray;
            case 14:
                return lyingCount;
            default:
                return NONE;
        }
    }

    private State now() {
        return acts.state();
    }

    // ---- ACTS ----

    public int cut(int strand) {
        if (!isTied(strand)) {
            return NONE;
        }
        acts.nextState().tied ^= 1 << strand;
        return claimsNow();
    }

    public int tie(int strand) {
        if (!told.isStrand(strand) || isTied(strand)) {
            return NONE;
        }
        acts.nextState().tied ^= 1 << strand;
        return claimsNow();
    }

    public int tighten(int strand, int strong) {
        if (!told.isStrand(strand) || strong < 0 || strong > MOST_STRONG) {
            return NONE;
        }
        int old = now().strong[strand];
        if (old == strong) {
            return NONE;
        }
        acts.nextState().strong[strand] = strong;
        return old;
    }

    public int strike(int fact) {
        if (!isProved(fact)) {
            return NONE;
        }
        acts.nextState().struck ^= 1 << fact;
        return claimsNow();
    }

    public int prove(int fact) {
        if (!told.isFact(fact) || isProved(fact)) {
            return NONE;
        }
        acts.nextState().struck ^= 1 << fact;
        return claimsNow();
    }

    public int day() {
        if (now().day >= MOST_DAYS) {
            return NONE;
        }
        return acts.nextState().pass(told);
    }

    public boolean undo() {
        return acts.goBack();
    }

    public boolean redo() {
        return acts.goOn();
    }

    public int image(int box) {
        if (box < 0 || box >= BOXES) {
            return NONE;
        }
        boxes[box].copy(now());
        filled |= 1 << box;
        return now().day;
    }

    public int back(int box) {
        if (box < 0 || box >= BOXES || !has(filled, box)) {
            return NONE;
        }
        acts.forget();
        now().copy(boxes[box]);
        return now().day;
    }

    // ---- what STANDS ----

    public int stands() {
        return standingNow();
    }

    public int tight() {
        look();
        return loom.greatest(now().tied);
    }

    public int hollow() {
        look();
        return loom.greatest(now().tied) & ~loom.standing(now().tied);
    }

    public int will(int n, int what) {
        if (n < 0 || n > MOST_DAYS_AHEAD || !isZeroOrOne(what)) {
            return NONE;
        }
        trial.copy(now());
        for (int i = 0; i < n; i++) {
            if (what == 1) {
                trial.pass(told);
            } else {
                trial.day++;
            }
        }
        loom.take(told, trial);
        return loom.standing(trial.tied);
    }

    public int with(int strands) {
        if ((strands & ~told.allStrands()) != 0) {
            return NONE;
        }
        look();
        return loom.standing(strands);
    }

    public int law(int n) {
        if (n < 0 || n > MOST_NEEDS) {
            return NONE;
        }
        look();
        for (int point = 0; point < told.points; point++) {
            if (told.isClaim(point)) {
                loom.need(point, n);
            }
        }
        return claimsWith(now().tied);
    }

    public int shock(int n) {
        if (n < 0 || n > MOST_STRONG) {
            return NONE;
        }
        look();
        loom.weaken(n);
        return claimsWith(now().tied);
    }

    public int fall(int claim) {
        if (!told.isClaim(claim)) {
            return NONE;
        }
        look();
        for (int days = 0; days <= MOST_DAYS_AHEAD; days++) {
            loom.age(now().day + days);
            if (!isUp(claim, now().tied)) {
                return days;
            }
        }
        return NONE;
    }

    public int worth(int claim) {
        if (!told.isClaim(claim)) {
            return NONE;
        }
        look();
        for (int needs = MOST_NEEDS; needs >= 0; needs--) {
            loom.need(claim, needs);
            if (isUp(claim, now().tied)) {
                return needs;
            }
        }
        return NONE;
    }

    // ---- sets of STRANDS ----

    public int topple(int claim, int what) {
        if (!told.isClaim(claim) || !isZeroOrOne(what)) {
            return NONE;
        }
        look();
        return sizeOrSet(fewest(claim, now().tied, now().tied, false), what);
    }

    public int prop(int claim, int what) {
        return isZeroOrOne(what) ? sizeOrSet(leastProp(claim), what) : NONE;
    }

    public int mend(int claim, int what) {
        if (!told.isClaim(claim) || !isZeroOrOne(what)) {
            return NONE;
        }
        look();
        int tied = now().tied;
        return sizeOrSet(fewest(claim, told.allStrands() & ~tied, tied, true), what);
    }

    private int leastProp(int claim) {
        look();
        if (!told.isClaim(claim) || !isUp(claim, now().tied)) {
            return NONE;
        }
        return fewest(claim, now().tied, 0, true);
    }

    /**
     * The least set of the fewest of some STRANDS that, turned over in the TIED ones, make a claim
     * STAND, or not. All sets have to be tried: by grounds and burden, fewer may bear more.
     */
    private int fewest(int claim, int some, int tied, boolean standing) {
        int found = NONE;
        int size = MOST_STRANDS + 1;
        for (int set = 0; set <= some; set++) {
            if ((set & ~some) == 0 && Integer.bitCount(set) < size
                    && has(loom.standing(tied ^ set), claim) == standing) {
                found = set;
                size = Integer.bitCount(set);
            }
        }
        return found;
    }

    private static int sizeOrSet(int set, int what) {
        return what == 0 && set != NONE ? Integer.bitCount(set) : set;
    }

    public int pivots(int claim) {
        if (!told.isClaim(claim)) {
            return NONE;
        }
        look();
        int tied = now().tied;
        if (!isUp(claim, tied)) {
            return 0;
        }
        int found = 0;
        for (int strand = 0; strand < told.strands; strand++) {
            if (has(tied, strand) && !isUp(claim, tied ^ 1 << strand)) {
                found |= 1 << strand;
            }
        }
        return found;
    }

    public int perils(int claim, int what) {
        look();
        int tied = now().tied;
        if (!isZeroOrOne(what) || !told.isClaim(claim) || !isUp(claim, tied)) {
            return NONE;
        }
        int found = 0;
        for (int set = 0; set <= tied; set++) {
            if ((set & ~tied) == 0 && Integer.bitCount(set) == what + 1
                    && !isUp(claim, tied ^ set)) {
                found++;
            }
        }
        return found;
    }

    public int power(int claim, int strand) {
        if (!told.isClaim(claim) || !isTied(strand)) {
            return NONE;
        }
        look();
        int tied = now().tied;
        int found = 0;
        for (int set = 0; set <= tied; set++) {
            if ((set & ~tied) == 0 && has(set, strand)
                    && isUp(claim, set) && !isUp(claim, set ^ 1 << strand)) {
                found++;
            }
        }
        return found;
    }

    public int spare() {
        int up = standingNow();
        int tied = now().tied;
        int found = 0;
        for (int strand = 0; strand < told.strands; strand++) {
            if (has(tied, strand) && loom.standing(tied ^ 1 << strand) == up) {
                found |= 1 << strand;
            }
        }
        return found;
    }

    public int brings(int strand) {
        if (!isTied(strand)) {
            return NONE;
        }
        return standingNow() & ~loom.standing(now().tied ^ 1 << strand);
    }

    // ---- single POINTS and STRANDS ----

    public int lack(int claim) {
        if (!told.isClaim(claim)) {
            return NONE;
        }
        standingNow();
        return Math.max(0, -loom.beyond(claim));
    }

    public int rank(int point) {
        return told.isPoint(point) && has(standingNow(), point) ? loom.round[point] : NONE;
    }

    public int depth() {
        int up = standingNow();
        int greatest = NONE;
        for (int point = 0; point < told.points; point++) {
            if (has(up, point)) {
                greatest = Math.max(greatest, loom.round[point]);
            }
        }
        return greatest;
    }

    public int ring(int what) {
        if (!isZeroOrOne(what)) {
            return NONE;
        }
        look();
        loom.weigh(now().tied);
        int claims = told.claims();
        int found = NONE;
        int size = MOST_POINTS + 1;
        for (int set = 1; set <= claims; set++) {
            if ((set & ~claims) == 0 && Integer.bitCount(set) < size && loom.bearsItself(set)) {
                found = set;
                size = Integer.bitCount(set);
            }
        }
        return sizeOrSet(found, what);
    }

    public int keystone(int what) {
        if (!isZeroOrOne(what)) {
            return NONE;
        }
        look();
        int found = NONE;
        int least = MOST_POINTS + 1;
        for (int fact = 0; fact < told.points; fact++) {
            if (isProved(fact)) {
                int claims = Integer.bitCount(standingWithout(fact) & told.claims());
                if (claims < least) {
                    found = fact;
                    least = claims;
                }
            }
        }
        return what == 1 && found != NONE ? least : found;
    }

    public int holds(int fact) {
        if (!isProved(fact)) {
            return NONE;
        }
        int up = standingNow();
        return up & ~standingWithout(fact) & told.claims();
    }

    private int standingWithout(int fact) {
        loom.proved ^= 1 << fact;
        int up = loom.standing(now().tied);
        loom.proved ^= 1 << fact;
        return up;
    }

    public int firmest(int what) {
        if (!isZeroOrOne(what)) {
            return NONE;
        }
        int up = standingNow();
        int found = NONE;
        int most = NONE;
        for (int claim = 0; claim < told.points; claim++) {
            if (told.isClaim(claim) && has(up, claim) && loom.beyond(claim) > most) {
                found = claim;
                most = loom.beyond(claim);
            }
        }
        return what == 0 ? found : most;
    }

    public int burdened() {
        int found = NONE;
        int most = NONE;
        for (int point = 0; point < told.points; point++) {
            int lead = Integer.bitCount(told.from[point] & now().tied);
            if (lead > most) {
                found = point;
                most = lead;
            }
        }
        return found;
    }

    public int gaps() {
        int found = 0;
        for (int point = 0; point < told.points; point++) {
            if (told.isClaim(point) && (told.into[point] & now().tied) == 0) {
                found |= 1 << point;
            }
        }
        return found;
    }

    public int best(int claim) {
        if (!told.isClaim(claim)) {
            return NONE;
        }
        int up = standingNow();
        int found = NONE;
        int most = 0;
        for (int strand = 0; strand < told.strands; strand++) {
            if (has(told.into[claim], strand) && has(up, told.source[strand])
                    && loom.load[strand] > most) {
                found = strand;
                most = loom.load[strand];
            }
        }
        return found;
    }

    public int weakest() {
        look();
        loom.weigh(now().tied);
        int found = NONE;
        int least = MOST_BORNE + 1;
        for (int strand = 0; strand < told.strands; strand++) {
            if (isTied(strand) && loom.load[strand] < least) {
                found = strand;
                least = loom.load[strand];
            }
        }
        return found;
    }

    public int roots(int claim) {
        if (!told.isClaim(claim)) {
            return NONE;
        }
        int reached = 1 << claim;
        for (int steps = 0; steps < MOST_POINTS; steps++) {
            reached |= told.behind(reached, now().tied);
        }
        return reached & told.facts;
    }

    public int path(int point, int claim) {
        if (!told.isPoint(point) || !told.isClaim(claim)) {
            return NONE;
        }
        int reached = 1 << point;
        for (int steps = 0; steps < MOST_POINTS; steps++) {
            if (has(reached, claim)) {
                return steps;
            }
            reached |= told.ahead(reached, now().tied);
        }
        return NONE;
    }

    // ---- by turns, and two at once ----

    public int moot(int claim, int n, int what) {
        if (!told.isClaim(claim) || n < 1 || n > MOST_MOVES || !isZeroOrOne(what)) {
            return OTHER;
        }
        look();
        for (int move = NONE; move < told.strands; move++) {
            if (!endsUp(claim, moved(now().tied, move), n - 1, true)) {
                return what == 0 ? 0 : move;
            }
        }
        return what == 0 ? 1 : NONE;
    }

    private static int moved(int tied, int move) {
        return move == NONE ? tied : tied ^ 1 << move;
    }

    /** Whether the claim STANDS behind so many moves more, if both move as they should. */
    private boolean endsUp(int claim, int tied, int left, boolean itsOwnTurn) {
        if (left <= 0) {
            return isUp(claim, tied);
        }
        for (int move = NONE; move < told.strands; move++) {
            if (endsUp(claim, moved(tied, move), left - 1, !itsOwnTurn) == itsOwnTurn) {
                return itsOwnTurn;
            }
        }
        return !itsOwnTurn;
    }

    public int counsels(int claim, int other) {
        lyingCount = 0;
        if (claim == other || !told.isClaim(claim) || !told.isClaim(other) || now().tied == 0) {
            return NONE;
        }
        look();
        fillOutcomes(claim, other);
        int rests = 0;
        for (int pair = 0; pair < outcomes.length; pair++) {
            int own = pair / MOST_STRANDS;
            int others = pair % MOST_STRANDS;
            if (isTied(own) && isTied(others) && isRest(own, others)) {
                if (rests == 0) {
                    lay(own);
                    lay(others);
                }
                rests++;
            }
        }
        return rests;
    }

    /** Of each two choices, bit 0: the first claim STANDS, bit 1: the other one does. */
    private void fillOutcomes(int claim, int other) {
        int tied = now().tied;
        for (int pair = 0; pair < outcomes.length; pair++) {
            int own = pair / MOST_STRANDS;
            int others = pair % MOST_STRANDS;
            if (isTied(own) && isTied(others)) {
                int up = loom.standing(tied & ~(1 << own | 1 << others));
                outcomes[pair] = up >> claim & 1 | (up >> other & 1) << 1;
            }
        }
    }

    private boolean isRest(int own, int others) {
        int firstHas = firstGain(own, others);
        int otherHas = otherGain(own, others);
        for (int strand = 0; strand < told.strands; strand++) {
            if (isTied(strand) && (firstGain(strand, others) > firstHas
                    || otherGain(own, strand) > otherHas)) {
                return false;
            }
        }
        return true;
    }

    private int firstGain(int own, int others) {
        int outcome = outcomes[own * MOST_STRANDS + others];
        return 2 * (outcome & 1) + 1 - (outcome >> 1);
    }

    private int otherGain(int own, int others) {
        int outcome = outcomes[own * MOST_STRANDS + others];
        return 2 * (outcome >> 1) + 1 - (outcome & 1);
    }

    // ---- what lies there ----

    public int proof(int claim) {
        lyingCount = 0;
        int set = leastProp(claim);
        if (set == NONE) {
            return NONE;
        }
        int up = loom.standing(set);
        for (int rank = 0; rank <= MOST_POINTS; rank++) {
            for (int point = 0; point < told.points; point++) {
                if (has(up, point) && loom.round[point] == rank) {
                    lay(point);
                }
            }
        }
        return lyingCount;
    }

    private void lay(int number) {
        if (lyingCount < lying.length) {
            lying[lyingCount] = number;
            lyingCount++;
        }
    }

    public int lies(int i) {
        return i >= 0 && i < lyingCount ? lying[i] : NONE;
    }

    // ---- odds ----

    public int odds(int n, int part) {
        if (n < 0 || n > MOST_ODDS_DAYS || !isZeroOrOne(part)) {
            return NONE;
        }
        int upper = 1;
        int lower = 1;
        for (int i = 0; i < n; i++) {
            upper *= MOST_FRAY - told.fray;
            lower *= MOST_FRAY;
        }
        int common = commonDivisor(lower, upper);
        return (part == 0 ? upper : lower) / common;
    }

    /** At least 1, whatever is handed in: it is divided by. */
    private static int commonDivisor(int a, int b) {
        int greater = a;
        int lesser = b;
        for (int i = 0; i < 64 && lesser != 0; i++) {
            int rest = greater % lesser;
            greater = lesser;
            lesser = rest;
        }
        return Math.max(1, greater);
    }

    // ---- SEEN ----

    public int seen(int claim, boolean is) {
        return told.isClaim(claim) ? witness.tell(claim, is, time) : NONE;
    }

    public boolean untell(int seen) {
        return witness.takeBack(seen, time);
    }

    public int later(int by) {
        if (by < 0 || by > MOST_LATER || time + by > MOST_TIME) {
            return NONE;
        }
        time += by;
        return time;
    }

    public int ways(int k) {
        findWays(k);
        return open.count;
    }

    public int sure(int strand, int k) {
        if (!told.isStrand(strand)) {
            return NONE;
        }
        findWays(k);
        if (open.count == 0) {
            return NONE;
        }
        int cut = open.countCut(strand);
        if (cut == open.count) {
            return 1;
        }
        return cut == 0 ? 0 : OTHER;
    }

    public int ask(int what, int k) {
        findWays(k);
        if (open.count == 0 || !isZeroOrOne(what)) {
            return NONE;
        }
        int found = NONE;
        int least = NONE;
        for (int claim = 0; claim < told.points; claim++) {
            int left = open.leftAtMost(claim);
            if (told.isClaim(claim) && (found == NONE || left < least)) {
                found = claim;
                least = left;
            }
        }
        return what == 0 ? found : least;
    }

    private void findWays(int k) {
        trial.startAs(told);
        loom.take(told, trial);
        open.collect(loom, told.allStrands(), witness, k);
    }

    // ---- small questions ----

    private static boolean isZeroOrOne(int what) {
        return what == 0 || what == 1;
    }

    private static boolean has(int set, int member) {
        return (set >> member & 1) != 0;
    }

    private boolean isTied(int strand) {
        return told.isStrand(strand) && has(now().tied, strand);
    }

    private boolean isProved(int fact) {
        return told.isFact(fact) && !has(now().struck, fact);
    }

    /** The loom has to be set anew before each question: the one before it may have bent it. */
    private void look() {
        loom.take(told, now());
    }

    private int standingNow() {
        look();
        return loom.standing(now().tied);
    }

    private int claimsNow() {
        look();
        return claimsWith(now().tied);
    }

    private int claimsWith(int tied) {
        return Integer.bitCount(loom.standing(tied) & told.claims());
    }

    private boolean isUp(int claim, int tied) {
        return has(loom.standing(tied), claim);
    }

    // ---- what the object holds ----

    /** A SUIT as it was told; acts leave it as it is. */
    private static final class Suit {
        int points;
        int facts;
        int strands;
        int fray;
        int draw;
        final int[] needs = new int[MOST_POINTS];
        final int[] into = new int[MOST_POINTS];
        final int[] from = new int[MOST_POINTS];
        final int[] source = new int[MOST_STRANDS];
        final int[] target = new int[MOST_STRANDS];
        final int[] strong = new int[MOST_STRANDS];
        final Formula formula = new Formula();

        void clear() {
            points = 0;
            facts = 0;
            strands = 0;
            fray = 0;
            draw = 0;
            formula.length = 0;
            formula.units = 0;
        }

        /** A fact needs 0, which is never looked at but by point(). */
        void addPoint(boolean fact, int need) {
            if (points >= MOST_POINTS) {
                return;
            }
            if (fact) {
                facts |= 1 << points;
            }
            needs[points] = need;
            into[points] = 0;
            from[points] = 0;
            points++;
        }

        void addStrand(int first, int second, int howStrong) {
            if (strands >= MOST_STRANDS || !isPoint(first) || !isPoint(second)) {
                return;
            }
            source[strands] = first;
            target[strands] = second;
            strong[strands] = howStrong;
            from[first] |= 1 << strands;
            into[second] |= 1 << strands;
            strands++;
        }

        boolean isPoint(int point) {
            return point >= 0 && point < points;
        }

        boolean isFact(int point) {
            return isPoint(point) && has(facts, point);
        }

        boolean isClaim(int point) {
            return isPoint(point) && !has(facts, point);
        }

        boolean isStrand(int strand) {
            return strand >= 0 && strand < strands;
        }

        int claims() {
            return (1 << points) - 1 & ~facts;
        }

        int allStrands() {
            return (1 << strands) - 1;
        }

        /** Where the TIED STRANDS from some POINTS lead. */
        int ahead(int some, int tied) {
            int found = 0;
            for (int strand = 0; strand < strands; strand++) {
                if (has(tied, strand) && has(some, source[strand])) {
                    found |= 1 << target[strand];
                }
            }
            return found;
        }

        /** Where the TIED STRANDS to some POINTS come from. */
        int behind(int some, int tied) {
            int found = 0;
            for (int strand = 0; strand < strands; strand++) {
                if (has(tied, strand) && has(some, target[strand])) {
                    found |= 1 << source[strand];
                }
            }
            return found;
        }
    }

    /** What comes of bears: each sign behind what it takes, so that no recursion is needed. */
    private static final class Formula {
        final int[] code = new int[MOST_CODE];
        int length;
        int units;

        /** What the words that are units stand for, at their own numbers. */
        private final int[] given = new int[NAME];

        private final int[] stack = new int[MOST_UNITS];
        private int height;

        static boolean isUnitWord(int kind) {
            return kind == STRONG || kind == GROUNDS || kind == BURDEN || kind == NEEDS
                    || kind == DAY;
        }

        void add(int step) {
            if (length < code.length) {
                code[length] = step;
                length++;
            }
        }

        int value(int strong, int grounds, int burden, int needs, int day) {
            given[STRONG] = strong;
            given[GROUNDS] = grounds;
            given[BURDEN] = burden;
            given[NEEDS] = needs;
            given[DAY] = day;
            height = 0;
            for (int i = 0; i < length; i++) {
                int step = code[i];
                if (step >= FIRST_NUMBER) {
                    push(step - FIRST_NUMBER);
                } else if (isUnitWord(step)) {
                    push(given[step]);
                } else if (step == NOT) {
                    push(pop() == 0 ? 1 : 0);
                } else {
                    int right = pop();
                    push(joined(step, pop(), right));
                }
            }
            return pop();
        }

        private void push(int number) {
            if (height < stack.length) {
                stack[height] = number;
                height++;
            }
        }

        private int pop() {
            if (height == 0) {
                return 0;
            }
            height--;
            return stack[height];
        }

        private static int joined(int sign, int left, int right) {
            switch (sign) {
                case '+':
                    return left + right;
                case '-':
                    return left - right;
                case '*':
                    return left * right;
                case '/':
                    return right == 0 ? 0 : left / right;
                case '%':
                    return right == 0 ? 0 : left % right;
                case '<':
                    return left < right ? 1 : 0;
                case '>':
                    return left > right ? 1 : 0;
                case '=':
                    return left == right ? 1 : 0;
                case AND:
                    return left != 0 && right != 0 ? 1 : 0;
                case OR:
                    return left != 0 || right != 0 ? 1 : 0;
                default:
                    return 0;
            }
        }
    }

    /** Reads a SUIT's text. Every FAULT is found at the TOKEN that is looked at just then. */
    private static final class Reader {
        int fault;
        int place = NONE;

        /** How many there are on the tape; those behind them are of earlier texts. */
        int bytes;

        private final byte[] tape = new byte[MOST_BYTES];

        /** The one to be filled: not the one that holds, which a FAULT leaves as it is. */
        private Suit suit = new Suit();

        private final long[] names = new long[MOST_POINTS];
        private final long[] words = new long[NAME];

        /** Bits of the lines' first words that may come once and have come. */
        private int once;

        private int next;
        private int at;
        private int kind;
        private int number;

        /** Eight letters of five bits each fit, so that names are compared as numbers. */
        private long name;

        Reader() {
            for (int i = 0; i < WORDS.length() && i / MOST_LETTERS < NAME; i++) {
                char letter = WORDS.charAt(i);
                if (letter != ' ') {
                    words[i / MOST_LETTERS] = words[i / MOST_LETTERS] * 32 + letter - 'a' + 1;
                }
            }
        }

        void append(int four) {
            for (int shift = 24; shift >= 0 && bytes < MOST_BYTES; shift -= 8) {
                tape[bytes] = (byte) (four >> shift);
                bytes++;
            }
        }

        /** Hands out the suit that was read, and takes another one to be filled next. */
        Suit exchange(Suit other) {
            Suit filled = suit;
            suit = other;
            return filled;
        }

        boolean read() {
            suit.clear();
            fault = 0;
            place = NONE;
            once = 0;
            next = 0;
            advance();
            for (int lines = 0; lines <= MOST_BYTES && fault == 0 && kind != END; lines++) {
                readLine();
            }
            return fault == 0;
        }

        private void advance() {
            while (next < bytes && isBlank(tape[next])) {
                next++;
            }
            at = next;
            if (next >= bytes) {
                kind = END;
            } else if (isLetter(tape[next])) {
                takeWord();
            } else if (isDigit(tape[next])) {
                takeNumber();
            } else {
                int sign = tape[next] & 255;
                kind = SIGNS.indexOf((char) sign) >= 0 ? sign : NO_TOKEN;
                next++;
            }
        }

        private void takeWord() {
            name = 0;
            while (next < bytes && isLetter(tape[next])) {
                name = name * 32 + tape[next] - 'a' + 1;
                next++;
            }
            kind = next - at > MOST_LETTERS ? NO_TOKEN : NAME;
            for (int word = 0; word < NAME && kind == NAME; word++) {
                if (words[word] == name) {
                    kind = word;
                }
            }
        }

        private void takeNumber() {
            number = 0;
            while (next < bytes && isDigit(tape[next])) {
                number = number * 10 + tape[next] - '0';
                next++;
            }
            boolean joined = next < bytes && isLetter(tape[next]);
            kind = joined || next - at > MOST_DIGITS ? NO_TOKEN : NUMBER;
        }

        private static boolean isBlank(int sign) {
            return sign == 32 || sign == 10;
        }

        private static boolean isLetter(int sign) {
            return sign >= 'a' && sign <= 'z';
        }

        private static boolean isDigit(int sign) {
            return sign >= '0' && sign <= '9';
        }

        private void blame(int what) {
            if (fault == 0) {
                fault = what;
                place = at;
            }
        }

        private void refuse() {
            blame(kind == NO_TOKEN ? FAULT_TOKEN : FAULT_PLACE);
        }

        private void expect(int due) {
            if (fault != 0) {
                return;
            }
            if (kind == due) {
                advance();
            } else {
                refuse();
            }
        }

        private void readLine() {
            switch (kind) {
                case FACT:
                    readFact();
                    break;
                case CLAIM:
                    readClaim();
                    break;
                case STRAND:
                    readStrand();
                    break;
                case BEARS:
                    if (begin(isFirst())) {
                        readEither(0);
                    }
                    break;
                case FRAY:
                    if (begin(isFirst())) {
                        suit.fray = readNumber(0, MOST_FRAY);
                    }
                    break;
                case DRAW:
                    if (begin(isFirst())) {
                        suit.draw = readNumber(0, MOST_DRAW);
                    }
                    break;
                default:
                    refuse();
            }
            expect(';');
        }

        /** Goes behind a line's first word, if there may be one more of its sort. */
        private boolean begin(boolean may) {
            if (may) {
                advance();
            } else {
                blame(FAULT_PLACE);
            }
            return may;
        }

        private boolean isFirst() {
            boolean first = !has(once, kind);
            once |= 1 << kind;
            return first;
        }

        private void readFact() {
            if (!begin(suit.points < MOST_POINTS)) {
                return;
            }
            readNewName();
            if (fault == 0) {
                suit.addPoint(true, 0);
            }
        }

        private void readClaim() {
            if (!begin(suit.points < MOST_POINTS)) {
                return;
            }
            readNewName();
            expect(NEEDS);
            int need = readNumber(1, MOST_NEEDS);
            if (fault == 0) {
                suit.addPoint(false, need);
            }
        }

        private void readStrand() {
            if (!begin(suit.strands < MOST_STRANDS)) {
                return;
            }
            int first = pointNamed();
            expect(NAME);
            int second = pointNamed();
            if (kind == NAME && !mayLead(first, second)) {
                blame(FAULT_NAME);
            }
            expect(NAME);
            expect(STRONG);
            int howStrong = readNumber(1, MOST_STRONG);
            if (fault == 0) {
                suit.addStrand(first, second, howStrong);
            }
        }

        private boolean mayLead(int first, int second) {
            if (first == second || !suit.isPoint(first) || !suit.isClaim(second)) {
                return false;
            }
            return (suit.from[first] & suit.into[second]) == 0;
        }

        private void readNewName() {
            if (kind != NAME) {
                refuse();
            } else if (find() != NONE) {
                blame(FAULT_NAME);
            } else if (suit.points < names.length) {
                names[suit.points] = name;
                advance();
            }
        }

        /** The POINT that the TOKEN looked at names, if it is a NAME; it stays the one looked at. */
        private int pointNamed() {
            int point = find();
            if (kind == NAME && point == NONE) {
                blame(FAULT_UNKNOWN);
            }
            return point;
        }

        private int find() {
            for (int point = 0; point < suit.points; point++) {
                if (names[point] == name) {
                    return point;
                }
            }
            return NONE;
        }

        private int readNumber(int least, int most) {
            int found = number;
            if (kind != NUMBER) {
                refuse();
            } else if (found < least || found > most) {
                blame(FAULT_NUMBER);
            } else {
                advance();
            }
            return found;
        }

        private void readEither(int within) {
            readBoth(within);
            for (int i = 0; i < MOST_BYTES && fault == 0 && kind == OR; i++) {
                advance();
                readBoth(within);
                suit.formula.add(OR);
            }
        }

        private void readBoth(int within) {
            readOne(within);
            for (int i = 0; i < MOST_BYTES && fault == 0 && kind == AND; i++) {
                advance();
                readOne(within);
                suit.formula.add(AND);
            }
        }

        private void readOne(int within) {
            if (kind == NOT) {
                if (begin(within < MOST_WITHIN)) {
                    readOne(within + 1);
                    suit.formula.add(NOT);
                }
                return;
            }
            readSum(within);
            if (fault == 0 && (kind == '<' || kind == '>' || kind == '=')) {
                int sign = kind;
                advance();
                readSum(within);
                suit.formula.add(sign);
            }
        }

        private void readSum(int within) {
            readTerm(within);
            for (int i = 0; i < MOST_BYTES && fault == 0 && (kind == '+' || kind == '-'); i++) {
                int sign = kind;
                advance();
                readTerm(within);
                suit.formula.add(sign);
            }
        }

        private void readTerm(int within) {
            readUnit(within);
            for (int i = 0; i < MOST_BYTES && fault == 0
                    && (kind == '*' || kind == '/' || kind == '%'); i++) {
                int sign = kind;
                advance();
                readUnit(within);
                suit.formula.add(sign);
            }
        }

        private void readUnit(int within) {
            boolean nested = kind == '(';
            boolean plain = kind == NUMBER || Formula.isUnitWord(kind);
            if (fault != 0 || !nested && !plain) {
                refuse();
                return;
            }
            int step = kind == NUMBER ? FIRST_NUMBER + number : kind;
            boolean deep = nested && within >= MOST_WITHIN;
            if (!begin(suit.formula.units < MOST_UNITS && !deep)) {
                return;
            }
            suit.formula.units++;
            if (nested) {
                readEither(within + 1);
                expect(')');
            } else {
                suit.formula.add(step);
            }
        }
    }

    /** What ACTS change, and what a BOX keeps. */
    private static final class State {
        final int[] strong = new int[MOST_STRANDS];
        int tied;
        int struck;
        int day;
        int seed;

        void startAs(Suit suit) {
            System.arraycopy(suit.strong, 0, strong, 0, MOST_STRANDS);
            tied = suit.allStrands();
            struck = 0;
            day = 0;
            seed = suit.draw;
        }

        void copy(State other) {
            System.arraycopy(other.strong, 0, strong, 0, MOST_STRANDS);
            tied = other.tied;
            struck = other.struck;
            day = other.day;
            seed = other.seed;
        }

        /** A DAY: which STRANDS frayed. */
        int pass(Suit suit) {
            int frayed = 0;
            day++;
            for (int strand = 0; strand < suit.strands; strand++) {
                if (has(tied, strand) && strong[strand] > 0) {
                    seed = (seed * 137 + 71) % 1000;
                    if (seed % 100 < suit.fray) {
                        strong[strand]--;
                        frayed |= 1 << strand;
                    }
                }
            }
            return frayed;
        }
    }

    /** The states between ACTS, in a round row: what now is, those before it, those taken back. */
    private static final class Acts {
        private static final int LENGTH = MOST_ACTS + 1;

        private final State[] states = new State[LENGTH];
        private int at;
        int undoable;
        int redoable;

        Acts() {
            for (int i = 0; i < LENGTH; i++) {
                states[i] = new State();
            }
        }

        State state() {
            return states[at];
        }

        /** The state that an ACT is to change: the present one stays as it is for UNDO. */
        State nextState() {
            State before = states[at];
            at = (at + 1) % LENGTH;
            states[at].copy(before);
            undoable = Math.min(undoable + 1, MOST_ACTS);
            redoable = 0;
            return states[at];
        }

        boolean goBack() {
            if (undoable == 0) {
                return false;
            }
            at = (at + LENGTH - 1) % LENGTH;
            undoable--;
            redoable++;
            return true;
        }

        boolean goOn() {
            if (redoable == 0) {
                return false;
            }
            at = (at + 1) % LENGTH;
            undoable++;
            redoable--;
            return true;
        }

        void forget() {
            undoable = 0;
            redoable = 0;
        }
    }

    /** Tells what STANDS by any set of TIED STRANDS, as things are or as they would be. */
    private static final class Loom {
        /** A claim has nine STRANDS to it at the most, a POINT nine from it. */
        private static final int SIDES = 10;

        private static final int BORNE_BITS = 10;

        int proved;

        /** Of the set looked at last: what each STRAND BEARS, each claim has, and its RANK. */
        final int[] load = new int[MOST_STRANDS];
        private final int[] sum = new int[MOST_POINTS];
        final int[] round = new int[MOST_POINTS];

        private Suit suit = new Suit();
        private int day;
        private final int[] strong = new int[MOST_STRANDS];
        private final int[] needs = new int[MOST_POINTS];

        /**
         * What a STRAND bears by grounds and burden, with the era in which that was told: thousands
         * of sets are looked at in one call, and these are few.
         */
        private final int[] known = new int[MOST_STRANDS * SIDES * SIDES];
        private int era;

        void take(Suit told, State state) {
            suit = told;
            proved = told.facts & ~state.struck;
            day = state.day;
            System.arraycopy(state.strong, 0, strong, 0, MOST_STRANDS);
            System.arraycopy(told.needs, 0, needs, 0, MOST_POINTS);
            era++;
        }

        void age(int days) {
            day = days;
            era++;
        }

        void need(int claim, int much) {
            if (suit.isClaim(claim)) {
                needs[claim] = much;
                era++;
            }
        }

        void weaken(int by) {
            for (int strand = 0; strand < MOST_STRANDS; strand++) {
                strong[strand] = Math.max(0, strong[strand] - by);
            }
            era++;
        }

        /** How much more a claim has than it needs, by the set looked at last. */
        int beyond(int claim) {
            return suit.isClaim(claim) ? sum[claim] - needs[claim] : 0;
        }

        void weigh(int tied) {
            for (int strand = 0; strand < suit.strands; strand++) {
                boolean bears = has(tied, strand) && strong[strand] > 0;
                load[strand] = bears ? borne(strand, tied) : 0;
            }
        }

        private int borne(int strand, int tied) {
            if (suit.formula.length == 0) {
                return strong[strand];
            }
            int claim = suit.target[strand];
            int grounds = Integer.bitCount(suit.into[claim] & tied);
            int burden = Integer.bitCount(suit.from[suit.source[strand]] & tied);
            int cell = (strand * SIDES + grounds) * SIDES + burden;
            if (cell >= known.length) {
                return 0;
            }
            if (known[cell] >> BORNE_BITS != era) {
                int comes = suit.formula.value(strong[strand], grounds, burden, needs[claim], day);
                known[cell] = era << BORNE_BITS | Math.max(0, Math.min(MOST_BORNE, comes));
            }
            return known[cell] & (1 << BORNE_BITS) - 1;
        }

        /** The least set: in each round the claims come up for which those before it bear enough. */
        int standing(int tied) {
            weigh(tied);
            clearSums();
            int up = proved;
            int fresh = proved;
            rankAs(0, fresh);
            for (int turn = 1; turn <= MOST_POINTS + 1; turn++) {
                addFrom(fresh);
                fresh = enough(suit.claims() & ~up);
                if (fresh == 0) {
                    break;
                }
                rankAs(turn, fresh);
                up |= fresh;
            }
            return up;
        }

        /** The greatest set: from all claims, those go for which the others don't bear enough. */
        int greatest(int tied) {
            weigh(tied);
            int claims = suit.claims();
            for (int turn = 0; turn <= MOST_POINTS; turn++) {
                clearSums();
                addFrom(proved | claims);
                claims = enough(claims);
            }
            return proved | claims;
        }

        /** Whether these claims would be TIGHT by each other alone; by the loads weighed last. */
        boolean bearsItself(int claims) {
            clearSums();
            addFrom(claims);
            return enough(claims) == claims;
        }

        private void clearSums() {
            for (int point = 0; point < MOST_POINTS; point++) {
                sum[point] = 0;
            }
        }

        private void addFrom(int points) {
            for (int strand = 0; strand < suit.strands; strand++) {
                if (has(points, suit.source[strand])) {
                    sum[suit.target[strand]] += load[strand];
                }
            }
        }

        private int enough(int claims) {
            int found = 0;
            for (int point = 0; point < suit.points; point++) {
                if (has(claims, point) && sum[point] >= needs[point]) {
                    found |= 1 << point;
                }
            }
            return found;
        }

        private void rankAs(int rank, int points) {
            for (int point = 0; point < suit.points; point++) {
                if (has(points, point)) {
                    round[point] = rank;
                }
            }
        }
    }

    /** What is SEEN, in both times. */
    private static final class Witness {
        int count;
        private final int[] claims = new int[MOST_SEEN];
        private final boolean[] stood = new boolean[MOST_SEEN];
        private final int[] toldAt = new int[MOST_SEEN];

        /** NONE while it is not UNTOLD. */
        private final int[] untoldAt = new int[MOST_SEEN];

        int tell(int claim, boolean is, int time) {
            if (count >= MOST_SEEN) {
                return NONE;
            }
            claims[count] = claim;
            stood[count] = is;
            toldAt[count] = time;
            untoldAt[count] = NONE;
            count++;
            return count - 1;
        }

        boolean takeBack(int number, int time) {
            if (number < 0 || number >= count || untoldAt[number] != NONE) {
                return false;
            }
            untoldAt[number] = time;
            return true;
        }

        /** Whether all that counts as known at a time is so, if these POINTS STOOD. */
        boolean fits(int up, int known) {
            for (int i = 0; i < count; i++) {
                if (counts(i, known) && has(up, claims[i]) != stood[i]) {
                    return false;
                }
            }
            return true;
        }

        private boolean counts(int i, int known) {
            return toldAt[i] <= known && (untoldAt[i] == NONE || untoldAt[i] > known);
        }
    }

    /** The WAYS that were found last: which STRANDS were CUT, and what STOOD then. */
    private static final class Ways {
        int count;
        private final int[] cuts = new int[MOST_WAYS];
        private final int[] ups = new int[MOST_WAYS];

        void collect(Loom loom, int strands, Witness witness, int known) {
            count = 0;
            for (int set = 0; set <= strands; set++) {
                if (Integer.bitCount(set) <= 2) {
                    int up = loom.standing(strands ^ set);
                    if (witness.fits(up, known)) {
                        keep(set, up);
                    }
                }
            }
        }

        private void keep(int set, int up) {
            if (count < MOST_WAYS) {
                cuts[count] = set;
                ups[count] = up;
                count++;
            }
        }

        int countCut(int strand) {
            return countIn(cuts, strand);
        }

        /** How many are left at the most, when it is known whether the claim STOOD. */
        int leftAtMost(int claim) {
            int stood = countIn(ups, claim);
            return Math.max(stood, count - stood);
        }

        private int countIn(int[] sets, int member) {
            int found = 0;
            for (int i = 0; i < count && i < sets.length; i++) {
                if (has(sets[i], member)) {
                    found++;
                }
            }
            return found;
        }
    }
}
