import java.util.function.IntUnaryOperator;

/** Each sentence of "Terms", part 3, and of promises 19 to 50 that names a boundary, on both sides of it. */
public final class EdgesOfQuestionsTest {
    private static final Check CHECK = new Check("edges of questions");

    /** f 0, c 1, d 2: c needs 3 of 4, d needs 2 of 2 from c. */
    private static final String ROW = "fact f;claim c needs 3;claim d needs 2;strand f c strong 4;strand c d strong 2;";

    /** Three facts of 2 each to a claim of 4; all three together bear nothing. */
    private static final String CROWD = "fact f;fact g;fact h;claim c needs 4;strand f c strong 2;strand g c strong 2;strand h c strong 2;"
            + "bears strong * (grounds < 3);";

    public static void main(String[] args) {
        anotherWhat();
        noClaim();
        noClaimAtAll();
        will();
        topple();
        prop();
        pivots();
        power();
        lack();
        rank();
        ring();
        moot();
        mootByTurns();
        fall();
        keystone();
        holds();
        spare();
        firmest();
        burdened();
        roots();
        law();
        worth();
        with();
        perils();
        mend();
        proof();
        counsels();
        counselsRest();
        counselsHave();
        path();
        shock();
        brings();
        gaps();
        best();
        depth();
        weakest();
        lies();
        odds();
        CHECK.close();
    }

    // "NONE .. for another what", in each promise that has one: 0 and 1 are the only ones
    private static void anotherWhat() {
        EightReasons x = Tape.of(ROW + "strand d c strong 3;");
        for (int what = -3; what <= 4; what++) {
            boolean is = what == 0 || what == 1;
            what("will", what, is, x.will(1, what), -1);
            what("topple", what, is, x.topple(1, what), -1);
            what("prop", what, is, x.prop(1, what), -1);
            what("moot", what, is, x.moot(1, 2, what), -2);
            what("keystone", what, is, x.keystone(what), -1);
            what("firmest", what, is, x.firmest(what), -1);
            what("perils", what, is, x.perils(1, what), -1);
            what("mend", what, is, x.mend(1, what), -1);
            what("odds", what, is, x.odds(1, what), -1);
        }
        EightReasons ring = Tape.of("claim a needs 1;claim b needs 1;strand a b strong 1;strand b a strong 1;");
        for (int what = -3; what <= 4; what++) {
            what("ring", what, what == 0 || what == 1, ring.ring(what), -1);
            what("ask", what, what == 0 || what == 1, ring.ask(what, 0), -1);
        }
        for (int what : new int[] {Integer.MAX_VALUE, Integer.MIN_VALUE, 256, 1 << 16}) {
            what("topple", what, false, x.topple(1, what), -1);
            what("moot", what, false, x.moot(1, 1, what), -2);
            what("perils", what, false, x.perils(1, what), -1);
            what("odds", what, false, x.odds(1, what), -1);
        }
    }

    private static void what(String call, int what, boolean is, int answer, int none) {
        CHECK.is(is == (answer != none), call + " what " + what + " answered " + answer);
    }

    private static void each(String call, int none, IntUnaryOperator asked) {
        for (int claim : new int[] {-1, 0, 3, 10, 12, 31, 32, 33, 34, 64, 65, Integer.MAX_VALUE, Integer.MIN_VALUE}) {
            CHECK.due(call + " of " + claim, asked.applyAsInt(claim), none);
        }
        for (int claim = 1; claim <= 2; claim++) {
            CHECK.is(asked.applyAsInt(claim) != none, call + " of the claim " + claim);
        }
    }

    // "NONE if .. it is no claim": facts, numbers below 0, the first number behind them
    private static void noClaim() {
        EightReasons x = Tape.of(ROW);
        each("topple 0", -1, claim -> x.topple(claim, 0));
        each("topple 1", -1, claim -> x.topple(claim, 1));
        each("prop 0", -1, claim -> x.prop(claim, 0));
        each("prop 1", -1, claim -> x.prop(claim, 1));
        each("pivots", -1, x::pivots);
        each("power", -1, claim -> x.power(claim, 0));
        each("lack", -1, x::lack);
        each("moot 0", -2, claim -> x.moot(claim, 1, 0));
        each("moot 1", -2, claim -> x.moot(claim, 3, 1));
        each("roots", -1, x::roots);
        each("worth", -1, x::worth);
        each("perils 0", -1, claim -> x.perils(claim, 0));
        each("perils 1", -1, claim -> x.perils(claim, 1));
        each("mend 0", -1, claim -> x.mend(claim, 0));
        each("mend 1", -1, claim -> x.mend(claim, 1));
        each("proof", -1, x::proof);
        each("best", -1, x::best);
        each("path", -1, claim -> x.path(0, claim));
        x.cut(0);
        each("fall", -1, x::fall);
        x.tie(0);
        EightReasons y = Tape.of(ROW + "claim e needs 1;");
        for (int claim : new int[] {-1, 0, 4, 10, 32, 33, 34, 35, Integer.MAX_VALUE, Integer.MIN_VALUE}) {
            CHECK.due("counsels of " + claim, y.counsels(claim, 1), -1);
            CHECK.due("counsels with " + claim, y.counsels(1, claim), -1);
        }
        CHECK.is(y.counsels(1, 3) >= 0 && y.counsels(3, 1) >= 0, "counsels of claims");
    }

    private static void noClaimAtAll() {
        EightReasons x = Tape.of("fact f;fact g;");
        CHECK.due("ring without claims", x.ring(0), -1);
        CHECK.due("firmest without claims", x.firmest(0), -1);
        CHECK.due("keystone without claims", x.keystone(0), 0);
        CHECK.due("keystone without claims: how many", x.keystone(1), 0);
        CHECK.due("holds without claims", x.holds(1), 0);
        CHECK.due("law without claims", x.law(0), 0);
        CHECK.due("shock without claims", x.shock(20), 0);
        CHECK.due("gaps without claims", x.gaps(), 0);
        CHECK.due("spare without strands", x.spare(), 0);
        CHECK.due("with none", x.with(0), 3);
        CHECK.due("with one that is not there", x.with(1), -1);
        CHECK.due("burdened without strands", x.burdened(), 0);
        CHECK.due("depth", x.depth(), 0);
        CHECK.due("weakest", x.weakest(), -1);
    }

    // "behind n DAYS (0 .. 60)"; "fraying as the SEED tells (what 1), none (0); NONE if one can't be"
    private static void will() {
        EightReasons x = Tape.of("fact f;claim c needs 1;strand f c strong 20;bears day < 60;");
        CHECK.due("will 0", x.will(0, 0), 3);
        CHECK.due("will 59", x.will(59, 0), 3);
        CHECK.due("will 60", x.will(60, 0), 1);
        CHECK.due("will 60, what 1", x.will(60, 1), 1);
        for (int n : new int[] {-1, 61, 999, Integer.MAX_VALUE, Integer.MIN_VALUE}) {
            CHECK.due("will " + n, x.will(n, 0), -1);
            CHECK.due("will " + n + ", what 1", x.will(n, 1), -1);
        }
        // from draw 0 come 71, 798, 397: rests 71, 98, 97
        EightReasons y = Tape.of("fact f;claim c needs 4;strand f c strong 5;fray 98;");
        int[] due = {3, 3, 3, 1};
        for (int n = 0; n < due.length; n++) {
            CHECK.due("fraying, will " + n, y.will(n, 1), due[n]);
            CHECK.due("no fraying, will " + n, y.will(n, 0), 3);
        }
        y.day();
        CHECK.due("a day later", y.will(1, 1), 3);
        CHECK.due("two days later", y.will(2, 1), 1);
        EightReasons struck = Tape.of(ROW);
        struck.strike(0);
        CHECK.due("nothing is PROVED by waiting", struck.will(60, 0), 0);
    }

    // "how many (0: it does not STAND), 1: which"; "of like ones the least set as bits"
    private static void topple() {
        EightReasons x = Tape.of("fact f;fact g;fact h;claim c needs 2;strand f c strong 1;strand g c strong 1;strand h c strong 1;");
        CHECK.due("two of three", x.topple(3, 0), 2);
        CHECK.due("the least two", x.topple(3, 1), 3);
        x.cut(0);
        CHECK.due("one of two", x.topple(3, 0), 1);
        CHECK.due("the lesser one", x.topple(3, 1), 2);
        x.cut(1);
        CHECK.due("it does not STAND", x.topple(3, 0), 0);
        CHECK.due("it does not STAND: none", x.topple(3, 1), 0);
        StringBuilder all = new StringBuilder("claim k needs 1;");
        for (int i = 0; i < 9; i++) {
            all.append("fact ").append((char) ('a' + i)).append(';');
        }
        for (int i = 0; i < 9; i++) {
            all.append("strand ").append((char) ('a' + i)).append(" k strong 1;");
        }
        EightReasons y = Tape.of(all.toString());
        CHECK.due("all nine", y.topple(0, 0), 9);
        CHECK.due("all nine: which", y.topple(0, 1), 511);
        // fewer is better than a lesser set: cut d to c, or both f to a and g to a
        EightReasons z = Tape.of("fact f;fact g;claim a needs 1;claim c needs 1;strand f a strong 1;strand g a strong 1;strand a c strong 1;");
        CHECK.due("one, though two are a lesser set", z.topple(3, 1), 4);
    }

    // "the fewest STRANDS that are TIED with which alone (all others CUT) it STANDS; of like ones the least set as bits"; "NONE if it does
    // not STAND"
    private static void prop() {
        EightReasons x = Tape.of("fact f;fact g;fact h;claim c needs 2;strand f c strong 1;strand g c strong 1;strand h c strong 1;");
        CHECK.due("two of three", x.prop(3, 0), 2);
        CHECK.due("the least two", x.prop(3, 1), 3);
        x.tighten(2, 2);
        CHECK.due("one, though two are a lesser set", x.prop(3, 1), 4);
        x.cut(2);
        CHECK.due("of those TIED", x.prop(3, 1), 3);
        x.cut(1);
        CHECK.due("it does not STAND", x.prop(3, 0), -1);
        CHECK.due("it does not STAND: which", x.prop(3, 1), -1);
        CHECK.due("all twelve", Tape.of(allNeeded()).prop(9, 0), 12);
        CHECK.due("all twelve: which", Tape.of(allNeeded()).prop(9, 1), 4095);
        EightReasons crowd = Tape.of(CROWD);
        CHECK.due("two would hold it, but it does not STAND", crowd.prop(3, 1), -1);
        crowd.cut(0);
        CHECK.due("now it STANDS", crowd.prop(3, 1), 6);
    }

    /** Twelve STRANDS all of which POINT 9 needs: nine in a row, three more from the fact. */
    private static String allNeeded() {
        String text = chain();
        for (char claim : new char[] {'c', 'd', 'e'}) {
            text = text.replace("claim " + claim + " needs 1;", "claim " + claim + " needs 2;") + "strand a " + claim + " strong 1;";
        }
        return text;
    }

    // "each of which, CUT alone, keeps it from STANDING (if it STANDS now)"
    private static void pivots() {
        EightReasons x = Tape.of("fact f;fact g;claim c needs 2;strand f c strong 1;strand g c strong 1;");
        CHECK.due("both", x.pivots(2), 3);
        x.tighten(0, 2);
        CHECK.due("one", x.pivots(2), 1);
        x.tighten(1, 2);
        CHECK.due("none", x.pivots(2), 0);
        x.cut(0);
        CHECK.due("of those TIED", x.pivots(2), 2);
        x.cut(1);
        CHECK.due("it does not STAND", x.pivots(2), 0);
    }

    // "in how many of all sets of STRANDS that are TIED (with it) ..": "NONE if it is CUT, or one can't be"
    private static void power() {
        EightReasons x = Tape.of("fact f;fact g;fact h;claim c needs 2;strand f c strong 1;strand g c strong 1;strand h c strong 1;");
        for (int strand = 0; strand < 3; strand++) {
            CHECK.due("with just one of the others", x.power(3, strand), 2);
        }
        x.cut(2);
        CHECK.due("with the other", x.power(3, 0), 1);
        CHECK.due("it is CUT", x.power(3, 2), -1);
        for (int strand : new int[] {-1, 3, 12, 31, 32, 33, Integer.MAX_VALUE, Integer.MIN_VALUE}) {
            CHECK.due("power of " + strand, x.power(3, strand), -1);
        }
        x.cut(1);
        CHECK.due("never", x.power(3, 0), 0);
        x.tighten(0, 2);
        CHECK.due("the set of it alone", x.power(3, 0), 1);
        EightReasons crowd = Tape.of(CROWD);
        CHECK.due("though it does not STAND now", crowd.power(3, 0), 2);
        EightReasons twelve = Tape.of(twelve());
        CHECK.due("one of twelve that is needed: all sets with it", twelve.power(4, 0), 2048);
        EightReasons own = Tape.of("fact f;fact g;claim c needs 5;claim d needs 5;strand f c strong 1;strand g c strong 1;strand f d strong 1;"
                + "bears 5 * (grounds = 1 and burden = 2);");
        CHECK.due("by what it BEARS in each set: 0 and 2 alone", own.power(2, 0), 1);
        CHECK.due("by what it BEARS in each set: 2 makes it two from f", own.power(2, 2), 1);
        CHECK.due("by what it BEARS in each set: 1 never helps", own.power(2, 1), 0);
    }

    /** Twelve STRANDS, the first of which alone bears e, POINT 4. */
    private static String twelve() {
        StringBuilder text = new StringBuilder("fact a;fact b;fact c;fact d;claim e needs 2;claim f needs 1;claim g needs 1;strand a e strong 2;");
        String pairs = "af ag bf bg cf cg df dg fg gf ef";
        for (String pair : pairs.split(" ")) {
            text.append("strand ").append(pair.charAt(0)).append(' ').append(pair.charAt(1)).append(" strong 1;");
        }
        return text.toString();
    }

    // "is less than it needs (0: it STANDS)"
    private static void lack() {
        EightReasons x = Tape.of(ROW);
        CHECK.due("more than it needs", x.lack(1), 0);
        x.tighten(0, 3);
        CHECK.due("just enough", x.lack(1), 0);
        x.tighten(0, 2);
        CHECK.due("one less", x.lack(1), 1);
        CHECK.due("what it bears, does not STAND: all lacks", x.lack(2), 2);
        x.tighten(0, 0);
        CHECK.due("all lacks", x.lack(1), 3);
        x.tighten(0, 20);
        x.strike(0);
        CHECK.due("from a STRUCK fact", x.lack(1), 3);
    }

    // "RANK: 0 of a fact that is PROVED"; "NONE if it does not STAND, or there is none such"
    private static void rank() {
        EightReasons x = Tape.of(ROW);
        int[] due = {0, 1, 2};
        for (int point = 0; point < 3; point++) {
            CHECK.due("rank " + point, x.rank(point), due[point]);
        }
        for (int none : new int[] {-1, 3, 10, 31, 32, 33, 34, Integer.MAX_VALUE, Integer.MIN_VALUE}) {
            CHECK.due("rank " + none, x.rank(none), -1);
        }
        x.cut(1);
        CHECK.due("it does not STAND", x.rank(2), -1);
        CHECK.due("the other does", x.rank(1), 1);
        x.strike(0);
        CHECK.due("STRUCK", x.rank(0), -1);
        CHECK.due("nothing bears it", x.rank(1), -1);
        // d comes in the first round by f alone, were it enough; with c it is there in the second
        EightReasons y = Tape.of(ROW + "strand f d strong 1;");
        CHECK.due("by those of earlier rounds", y.rank(2), 2);
        y.tighten(2, 2);
        CHECK.due("enough in the first round", y.rank(2), 1);
    }

    // "RING: the fewest claims that would be TIGHT by each other alone"; "NONE if there is none"
    private static void ring() {
        EightReasons x = Tape.of("claim a needs 2;claim b needs 2;strand a b strong 2;strand b a strong 2;");
        CHECK.due("two", x.ring(0), 2);
        CHECK.due("which", x.ring(1), 3);
        x.tighten(0, 1);
        CHECK.due("one less", x.ring(0), -1);
        CHECK.due("one less: which", x.ring(1), -1);
        x.tighten(0, 2);
        x.cut(1);
        CHECK.due("cut", x.ring(0), -1);
        EightReasons y = Tape.of("fact f;claim a needs 2;claim b needs 1;strand f a strong 1;strand b a strong 1;strand a b strong 1;");
        CHECK.due("a fact does not help", y.ring(0), -1);
        CHECK.due("though it is tight", y.tight(), 7);
        EightReasons z = Tape.of("claim a needs 1;claim b needs 1;claim c needs 2;strand a b strong 1;strand b a strong 1;strand a c strong 1;"
                + "strand b c strong 1;strand c a strong 1;");
        CHECK.due("the fewest", z.ring(1), 3);
        z.cut(1);
        CHECK.due("all three", z.ring(0), 3);
        CHECK.due("all three: which", z.ring(1), 7);
        EightReasons ten = Tape.of(chain().replace("fact a;", "claim a needs 1;") + "strand j a strong 1;");
        CHECK.due("all ten", ten.ring(0), 10);
        CHECK.due("all ten: which", ten.ring(1), 1023);
        ten.cut(4);
        CHECK.due("all ten are needed", ten.ring(0), -1);
    }

    // "MOOT of n moves (1 .. 3)"; "-2 if it is no claim, or one can't be"; "(-1: nothing)"
    private static void moot() {
        EightReasons x = Tape.of(ROW);
        for (int n : new int[] {-1, 0, 4, 5, Integer.MAX_VALUE, Integer.MIN_VALUE}) {
            CHECK.due("moot of " + n, x.moot(1, n, 0), -2);
            CHECK.due("moot of " + n + ", what 1", x.moot(1, n, 1), -2);
        }
        int[][] due = {{0, 0}, {1, -1}, {0, -1}};
        for (int n = 1; n <= 3; n++) {
            CHECK.due("moot of " + n, x.moot(1, n, 0), due[n - 1][0]);
            CHECK.due("moot of " + n + ": the first move", x.moot(1, n, 1), due[n - 1][1]);
        }
        EightReasons none = Tape.of("claim c needs 1;");
        CHECK.due("no STRANDS: it does not STAND", none.moot(0, 3, 0), 0);
        CHECK.due("no STRANDS: nothing", none.moot(0, 3, 1), -1);
    }

    // "CUT ones are TIED, TIED ones CUT"; "of like moves nothing is first, then the least number"
    private static void mootByTurns() {
        EightReasons x = Tape.of("fact f;fact g;claim c needs 1;strand f c strong 1;strand g c strong 1;");
        x.cut(0);
        CHECK.due("one is left", x.moot(2, 1, 1), 1);
        CHECK.due("two moves: tied again", x.moot(2, 2, 0), 1);
        CHECK.due("three moves: one ties, one is cut", x.moot(2, 3, 0), 0);
        CHECK.due("cut the one now, whatever is tied is cut", x.moot(2, 3, 1), 1);
        x.cut(1);
        CHECK.due("down already: nothing", x.moot(2, 1, 1), -1);
        CHECK.due("down already: not for long", x.moot(2, 2, 0), 1);
        CHECK.due("the last move is theirs", x.moot(2, 3, 0), 0);
        CHECK.due("nothing at first", x.moot(2, 3, 1), -1);
        EightReasons crowd = Tape.of(CROWD);
        crowd.cut(2);
        CHECK.due("the least number, not the one to be tied", crowd.moot(3, 1, 1), 0);
        crowd.tighten(0, 4);
        CHECK.due("cutting 0 does it, too", crowd.moot(3, 1, 1), 0);
        crowd.tighten(1, 4);
        CHECK.due("now only tying does", crowd.moot(3, 1, 1), 2);
    }

    // "FALL (0 .. 60); NONE if not in these, or it is no claim"
    private static void fall() {
        String text = "fact f;claim c needs 1;strand f c strong 1;fray 100;bears day < ";
        CHECK.due("behind 0", Tape.of(text + "0;").fall(1), 0);
        CHECK.due("behind 1", Tape.of(text + "1;").fall(1), 1);
        CHECK.due("behind 59", Tape.of(text + "59;").fall(1), 59);
        CHECK.due("behind 60", Tape.of(text + "60;").fall(1), 60);
        CHECK.due("behind 61", Tape.of(text + "61;").fall(1), -1);
        EightReasons x = Tape.of(text + "61;");
        x.day();
        CHECK.due("it has frayed", x.fall(1), 0);
        x.tighten(0, 1);
        CHECK.due("one day nearer", x.fall(1), 60);
        EightReasons again = Tape.of("fact f;claim c needs 1;strand f c strong 1;bears not day = 3;");
        CHECK.due("though it comes up again", again.fall(1), 3);
        CHECK.due("it does", again.will(4, 0), 3);
    }

    // "NONE without facts that are PROVED"; "of like ones the first"
    private static void keystone() {
        CHECK.due("no facts", Tape.of("claim c needs 1;").keystone(0), -1);
        CHECK.due("no facts: how many", Tape.of("claim c needs 1;").keystone(1), -1);
        EightReasons x = Tape.of("claim c needs 1;fact f;fact g;fact h;claim d needs 1;strand f c strong 1;strand g d strong 1;");
        CHECK.due("of like ones the first", x.keystone(0), 1);
        CHECK.due("one claim then", x.keystone(1), 1);
        x.strike(1);
        CHECK.due("the next", x.keystone(0), 2);
        CHECK.due("none then", x.keystone(1), 0);
        x.strike(2);
        CHECK.due("the last, which holds nothing", x.keystone(0), 3);
        CHECK.due("none then, either", x.keystone(1), 0);
        x.strike(3);
        CHECK.due("all STRUCK", x.keystone(0), -1);
        CHECK.due("all STRUCK: how many", x.keystone(1), -1);
        x.prove(1);
        CHECK.due("one PROVED", x.keystone(0), 1);
    }

    // "NONE if it is no fact that is PROVED"
    private static void holds() {
        EightReasons x = Tape.of(ROW);
        CHECK.due("both", x.holds(0), 6);
        for (int none : new int[] {-1, 1, 2, 3, 10, 31, 32, Integer.MAX_VALUE, Integer.MIN_VALUE}) {
            CHECK.due("holds " + none, x.holds(none), -1);
        }
        x.cut(1);
        CHECK.due("those that STAND now", x.holds(0), 2);
        x.strike(0);
        CHECK.due("STRUCK", x.holds(0), -1);
        x.prove(0);
        x.cut(0);
        CHECK.due("nothing", x.holds(0), 0);
    }

    // "STRANDS that are TIED without each of which (CUT alone) the same POINTS STAND"
    private static void spare() {
        EightReasons x = Tape.of("fact f;fact g;claim c needs 1;strand f c strong 1;strand g c strong 1;");
        CHECK.due("each of two, though not both", x.spare(), 3);
        x.cut(0);
        CHECK.due("the last one is not", x.spare(), 0);
        x.tighten(1, 0);
        CHECK.due("one that bears nothing is", x.spare(), 2);
        x.cut(1);
        CHECK.due("none is TIED", x.spare(), 0);
        CHECK.due("other POINTS STAND without it", Tape.of(CROWD).spare(), 0);
    }

    // "of like ones the first"; "NONE if none STANDS"
    private static void firmest() {
        EightReasons x = Tape.of("fact f;claim c needs 3;claim d needs 1;strand f c strong 3;strand f d strong 1;");
        CHECK.due("nothing beyond: the first", x.firmest(0), 1);
        CHECK.due("nothing beyond", x.firmest(1), 0);
        x.tighten(1, 2);
        CHECK.due("one beyond", x.firmest(0), 2);
        CHECK.due("how much", x.firmest(1), 1);
        x.tighten(0, 4);
        CHECK.due("like ones: the first", x.firmest(0), 1);
        x.cut(0);
        CHECK.due("the one that STANDS", x.firmest(0), 2);
        x.cut(1);
        CHECK.due("none STANDS", x.firmest(0), -1);
        CHECK.due("none STANDS: how much", x.firmest(1), -1);
        EightReasons nine = Tape.of(chain() + "strand j e strong 7;");
        CHECK.due("what the last to come up BEARS counts, too", nine.firmest(0), 4);
        CHECK.due("what the last to come up BEARS", nine.firmest(1), 7);
    }

    // "of like ones the first; NONE without POINTS"
    private static void burdened() {
        CHECK.due("without POINTS", new EightReasons().burdened(), -1);
        CHECK.due("one POINT", Tape.of("claim c needs 1;").burdened(), 0);
        EightReasons x = Tape.of(ROW);
        CHECK.due("like ones: the first", x.burdened(), 0);
        x.cut(0);
        CHECK.due("of those TIED", x.burdened(), 1);
        x.cut(1);
        CHECK.due("none TIED: the first", x.burdened(), 0);
        EightReasons y = Tape.of(ROW + "claim e needs 1;strand c e strong 1;");
        CHECK.due("two lead from it", y.burdened(), 1);
        y.tighten(1, 0);
        CHECK.due("one that is not strong is TIED", y.burdened(), 1);
    }

    // "Facts (STRUCK ones, too) from which a claim can be come to by STRANDS that are TIED, however many"
    private static void roots() {
        EightReasons x = Tape.of(ROW + "fact g;fact h;strand g d strong 1;");
        CHECK.due("by one", x.roots(1), 1);
        CHECK.due("by one and by two", x.roots(2), 9);
        x.strike(0);
        CHECK.due("STRUCK ones, too", x.roots(2), 9);
        x.tighten(0, 0);
        CHECK.due("by one that is not strong", x.roots(2), 9);
        x.cut(0);
        CHECK.due("CUT", x.roots(2), 8);
        CHECK.due("none", x.roots(1), 0);
        EightReasons ring = Tape.of("claim a needs 1;claim b needs 1;strand a b strong 1;strand b a strong 1;");
        CHECK.due("a ring has none", ring.roots(0), 0);
        CHECK.due("nine STRANDS", Tape.of(chain()).roots(9), 1);
    }

    /** A fact, and nine claims one behind the other. */
    private static String chain() {
        StringBuilder text = new StringBuilder("fact a;");
        for (int i = 1; i < 10; i++) {
            text.append("claim ").append((char) ('a' + i)).append(" needs 1;");
        }
        for (int i = 1; i < 10; i++) {
            text.append("strand ").append((char) ('a' + i - 1)).append(' ').append((char) ('a' + i)).append(" strong 1;");
        }
        return text.toString();
    }

    // "if each needed n (0 .. 99, in bears, too); NONE for another n"
    private static void law() {
        EightReasons x = Tape.of("fact f;claim c needs 3;claim d needs 3;strand f c strong 4;bears 99;");
        CHECK.due("law 0: what needs nothing STANDS", x.law(0), 2);
        CHECK.due("law 1", x.law(1), 1);
        CHECK.due("law 99", x.law(99), 1);
        for (int n : new int[] {-1, 100, 999, Integer.MAX_VALUE, Integer.MIN_VALUE}) {
            CHECK.due("law " + n, x.law(n), -1);
        }
        EightReasons first = Tape.of("claim c needs 3;fact f;strand f c strong 4;");
        CHECK.due("of a claim that is POINT 0", first.law(4), 1);
        CHECK.due("of a claim that is POINT 0, one more", first.law(5), 0);
        EightReasons y = Tape.of("fact f;claim c needs 3;strand f c strong 4;bears 98;");
        CHECK.due("law 98 by 98", y.law(98), 1);
        CHECK.due("law 99 by 98", y.law(99), 0);
        EightReasons z = Tape.of("fact f;claim c needs 3;strand f c strong 4;bears needs - (needs = 50);");
        CHECK.due("in bears: 49", z.law(49), 1);
        CHECK.due("in bears: 50", z.law(50), 0);
        CHECK.due("in bears: 51", z.law(51), 1);
    }

    // "The most that a claim could need (0 .. 99, in bears, too) and STAND, all others as they are"
    private static void worth() {
        String text = "fact f;claim c needs 3;claim d needs 3;strand f c strong 4;strand c d strong 4;bears ";
        CHECK.due("97", Tape.of(text + "97;").worth(1), 97);
        CHECK.due("98", Tape.of(text + "98;").worth(1), 98);
        CHECK.due("99", Tape.of(text + "99;").worth(1), 99);
        CHECK.due("100 and more", Tape.of(text + "100;").worth(1), 99);
        CHECK.due("nothing", Tape.of(text + "0;").worth(1), 0);
        CHECK.due("by what does not STAND", Tape.of(text + "2;").worth(2), 0);
        CHECK.due("by what STANDS", Tape.of(text + "3;").worth(2), 3);
        CHECK.due("in bears: the most, though not all below", Tape.of(text + "(needs > 90) * 96;").worth(1), 96);
        CHECK.due("all others as they are", Tape.of(text + "needs;").worth(1), 99);
        EightReasons x = Tape.of(text + "99;");
        x.worth(1);
        CHECK.due("nothing is done", x.point(1, 1), 3);
    }

    // "with just these STRANDS TIED (as bits)"; "NONE if one can't be"
    private static void with() {
        EightReasons x = Tape.of(ROW);
        int[] due = {1, 3, 1, 7};
        for (int set = 0; set < 4; set++) {
            CHECK.due("with " + set, x.with(set), due[set]);
        }
        for (int set : new int[] {4, 5, 7, 8, 1 << 12, 1 << 30, Integer.MIN_VALUE, Integer.MAX_VALUE, -1, -4}) {
            CHECK.due("with " + set, x.with(set), -1);
        }
        x.cut(0);
        x.cut(1);
        CHECK.due("CUT ones are TIED for it", x.with(3), 7);
        CHECK.due("and CUT still", x.about(4), 0);
        EightReasons twelve = Tape.of(twelve());
        CHECK.due("all twelve", twelve.with(4095), 127);
        CHECK.due("a thirteenth", twelve.with(4096), -1);
    }

    // "How many sets of one STRAND that is TIED, and of two"; "NONE if it does not STAND"
    private static void perils() {
        EightReasons x = Tape.of("fact f;fact g;claim c needs 1;strand f c strong 1;strand g c strong 1;claim d needs 1;");
        CHECK.due("none of one", x.perils(2, 0), 0);
        CHECK.due("one of two", x.perils(2, 1), 1);
        x.cut(0);
        CHECK.due("one of one", x.perils(2, 0), 1);
        CHECK.due("there are no two", x.perils(2, 1), 0);
        x.cut(1);
        CHECK.due("it does not STAND", x.perils(2, 0), -1);
        CHECK.due("it does not STAND: two", x.perils(2, 1), -1);
        CHECK.due("never did", x.perils(3, 0), -1);
        CHECK.due("of twelve, one", Tape.of(twelve()).perils(4, 0), 1);
        CHECK.due("of twelve, two", Tape.of(twelve()).perils(4, 1), 11);
    }

    // "(0: it does)"; "NONE if by none"; "of like ones the least set as bits"
    private static void mend() {
        EightReasons x = Tape.of("fact f;fact g;fact h;claim c needs 2;strand f c strong 1;strand g c strong 1;strand h c strong 2;");
        CHECK.due("it does", x.mend(3, 0), 0);
        CHECK.due("it does: none", x.mend(3, 1), 0);
        x.cut(0);
        x.cut(1);
        CHECK.due("it does still", x.mend(3, 0), 0);
        x.cut(2);
        CHECK.due("one, though two are a lesser set", x.mend(3, 1), 4);
        x.tighten(2, 1);
        CHECK.due("two", x.mend(3, 0), 2);
        CHECK.due("the least two", x.mend(3, 1), 3);
        x.tie(1);
        CHECK.due("one more", x.mend(3, 1), 1);
        x.strike(1);
        CHECK.due("two more", x.mend(3, 1), 5);
        x.strike(0);
        CHECK.due("by none", x.mend(3, 0), -1);
        CHECK.due("by none: which", x.mend(3, 1), -1);
        EightReasons all = Tape.of("claim c needs 1;");
        CHECK.due("nothing is CUT", all.mend(0, 0), -1);
        EightReasons twelve = Tape.of(allNeeded());
        for (int strand = 0; strand < 12; strand++) {
            twelve.cut(strand);
        }
        CHECK.due("all twelve", twelve.mend(9, 0), 12);
        CHECK.due("all twelve: which", twelve.mend(9, 1), 4095);
    }

    // "They lie there then, by their RANK so, of like ones the lesser number (behind NONE: nothing)"
    private static void proof() {
        EightReasons x = Tape.of("claim d needs 1;claim c needs 1;fact f;claim b needs 1;fact e;strand f c strong 1;strand c d strong 1;"
                + "strand f b strong 1;strand e d strong 1;");
        CHECK.due("by e alone", x.proof(0), 3);
        lie(x, 2, 4, 0);
        x.cut(3);
        CHECK.due("by f and c", x.proof(0), 4);
        lie(x, 2, 4, 1, 0);
        CHECK.due("b", x.proof(3), 3);
        lie(x, 2, 4, 3);
        x.strike(4);
        CHECK.due("a STRUCK fact does not STAND", x.proof(3), 2);
        lie(x, 2, 3);
        CHECK.due("a fact", x.proof(2), -1);
        lie(x);
        x.proof(3);
        CHECK.due("no POINT", x.proof(5), -1);
        lie(x);
        x.proof(3);
        x.cut(2);
        CHECK.due("it does not STAND", x.proof(3), -1);
        lie(x);
        EightReasons ten = Tape.of(chain());
        CHECK.due("all ten", ten.proof(9), 10);
        lie(ten, 0, 1, 2, 3, 4, 5, 6, 7, 8, 9);
    }

    private static void lie(EightReasons x, int... due) {
        CHECK.due("how many lie there", x.about(14), due.length);
        for (int i = 0; i < due.length; i++) {
            CHECK.due("lies " + i, x.lies(i), due[i]);
        }
        CHECK.due("lies behind them", x.lies(due.length), -1);
        CHECK.due("lies before them", x.lies(-1), -1);
    }

    // "NONE if both are one, none is TIED, or one is no claim"; "(both may choose one)"; "behind 0, NONE: nothing"
    private static void counsels() {
        EightReasons x = Tape.of("fact f;claim c needs 1;claim d needs 1;strand f c strong 1;strand f d strong 1;");
        CHECK.due("each the other's", x.counsels(1, 2), 1);
        lie(x, 1, 0);
        CHECK.due("both are one", x.counsels(1, 1), -1);
        lie(x);
        x.counsels(1, 2);
        CHECK.due("the other is a fact", x.counsels(1, 0), -1);
        lie(x);
        x.counsels(1, 2);
        CHECK.due("the first is none", x.counsels(3, 1), -1);
        lie(x);
        x.counsels(1, 2);
        x.cut(1);
        CHECK.due("what lies there stays", x.about(14), 2);
        CHECK.due("one is TIED: both choose it", x.counsels(1, 2), 1);
        lie(x, 0, 0);
        x.cut(0);
        CHECK.due("none is TIED", x.counsels(1, 2), -1);
        lie(x);
        x.tie(1);
        CHECK.due("one is TIED again", x.counsels(1, 2), 1);
        lie(x, 1, 1);
    }

    // "how many RESTS": none, too
    private static void counselsRest() {
        // both cut one of the same two: c's counsel would have them be one, the other's would not
        EightReasons x = Tape.of("fact f;fact g;claim c needs 1;claim d needs 3;claim e needs 1;strand f c strong 1;strand g c strong 1;");
        CHECK.due("e lets each be, d too", x.counsels(3, 4), 4);
        lie(x, 0, 0);
        CHECK.due("no REST", x.counsels(2, 3), 0);
        lie(x);
        CHECK.due("no REST the other way round", x.counsels(3, 2), 0);
        lie(x);
        x.cut(0);
        CHECK.due("one is left for both: a REST", x.counsels(2, 3), 1);
        lie(x, 1, 1);
        EightReasons all = Tape.of("claim c needs 9;claim d needs 9;fact f;strand f c strong 1;strand f d strong 1;");
        CHECK.due("nothing can be had: each is a REST", all.counsels(0, 1), 4);
        lie(all, 0, 0);
        all.cut(0);
        CHECK.due("one is TIED", all.counsels(0, 1), 1);
        lie(all, 1, 1);
    }

    // "each has 2, if its own claim STANDS then, and 1 more, if the other one does not"
    private static void counselsHave() {
        // b hangs from a, or from c that hangs from a. What b's and c's counsels have, by b's choice and c's:
        // 2 2, 3 0, 0 3 / 3 0, 3 0, 1 1 / 0 3, 1 1, 2 2: no REST; were 2 only 1, cutting 1 and 2 would be one
        EightReasons x = Tape.of("fact a;claim b needs 1;claim c needs 2;strand c b strong 1;strand a c strong 2;strand a b strong 3;");
        CHECK.due("no REST of b and c", x.counsels(1, 2), 0);
        lie(x);
        CHECK.due("no REST of c and b", x.counsels(2, 1), 0);
        lie(x);
    }

    // "(0: they are one); NONE if by none, or one can't be"
    private static void path() {
        EightReasons x = Tape.of(ROW + "fact g;");
        CHECK.due("they are one", x.path(1, 1), 0);
        CHECK.due("by one", x.path(0, 1), 1);
        CHECK.due("by two", x.path(0, 2), 2);
        CHECK.due("by none", x.path(2, 1), -1);
        CHECK.due("from a fact that bears nothing", x.path(3, 1), -1);
        CHECK.due("to a fact", x.path(0, 0), -1);
        for (int none : new int[] {-1, 4, 10, 31, 32, 33, Integer.MAX_VALUE, Integer.MIN_VALUE}) {
            CHECK.due("from " + none, x.path(none, 1), -1);
            CHECK.due("to " + none, x.path(1, none), -1);
            CHECK.due("from and to " + none, x.path(none, none), -1);
        }
        x.tighten(0, 0);
        CHECK.due("by one that is not strong", x.path(0, 2), 2);
        x.strike(0);
        CHECK.due("from a STRUCK fact", x.path(0, 2), 2);
        x.cut(0);
        CHECK.due("CUT", x.path(0, 2), -1);
        CHECK.due("they are one still", x.path(1, 1), 0);
        EightReasons ten = Tape.of(chain());
        CHECK.due("nine", ten.path(0, 9), 9);
        CHECK.due("eight", ten.path(1, 9), 8);
        EightReasons both = Tape.of(ROW + "strand f d strong 1;");
        CHECK.due("the fewest", both.path(0, 2), 1);
    }

    // "less strong by n (0 .. 20; 0 at least); NONE for another n"
    private static void shock() {
        EightReasons x = Tape.of("fact f;claim c needs 1;strand f c strong 20;");
        CHECK.due("shock 0", x.shock(0), 1);
        CHECK.due("shock 19", x.shock(19), 1);
        CHECK.due("shock 20", x.shock(20), 0);
        for (int n : new int[] {-1, 21, 999, Integer.MAX_VALUE, Integer.MIN_VALUE}) {
            CHECK.due("shock " + n, x.shock(n), -1);
        }
        CHECK.due("as strong as it was", x.strand(0, 2), 20);
        EightReasons y = Tape.of("fact f;claim c needs 1;strand f c strong 2;bears 5 - strong;");
        CHECK.due("less strong bears more", y.shock(1), 1);
        CHECK.due("not strong bears nothing", y.shock(2), 0);
        CHECK.due("0 at least", y.shock(3), 0);
        CHECK.due("0 at least by 20", y.shock(20), 0);
    }

    // "NONE if it is CUT, or there is none such"
    private static void brings() {
        EightReasons x = Tape.of(ROW);
        CHECK.due("both", x.brings(0), 6);
        CHECK.due("one", x.brings(1), 4);
        for (int none : new int[] {-1, 2, 12, 31, 32, 33, Integer.MAX_VALUE, Integer.MIN_VALUE}) {
            CHECK.due("brings " + none, x.brings(none), -1);
        }
        x.cut(0);
        CHECK.due("it is CUT", x.brings(0), -1);
        CHECK.due("none STANDS that would not", x.brings(1), 0);
    }

    // "Claims to which no STRAND that is TIED leads"
    private static void gaps() {
        EightReasons x = Tape.of(ROW + "claim e needs 1;");
        CHECK.due("one without any", x.gaps(), 8);
        x.tighten(0, 0);
        CHECK.due("one that is not strong leads there", x.gaps(), 8);
        x.cut(0);
        CHECK.due("one that is CUT does not", x.gaps(), 10);
        x.cut(1);
        CHECK.due("all claims, no fact", x.gaps(), 14);
    }

    // "of those from POINTS that STAND; of like ones the first; NONE if none BEARS"
    private static void best() {
        EightReasons x = Tape.of("fact f;fact g;claim c needs 9;claim d needs 9;strand f c strong 2;strand g c strong 2;strand d c strong 5;");
        CHECK.due("like ones: the first", x.best(2), 0);
        x.tighten(1, 3);
        CHECK.due("the most", x.best(2), 1);
        x.strike(1);
        CHECK.due("from what STANDS", x.best(2), 0);
        x.tighten(0, 1);
        CHECK.due("1 is something", x.best(2), 0);
        x.tighten(0, 0);
        CHECK.due("0 is nothing", x.best(2), -1);
        x.tighten(0, 1);
        x.cut(0);
        CHECK.due("CUT", x.best(2), -1);
        CHECK.due("none leads there", x.best(3), -1);
    }

    // "NONE if nothing does"
    private static void depth() {
        EightReasons x = Tape.of(ROW);
        CHECK.due("two", x.depth(), 2);
        x.cut(1);
        CHECK.due("one", x.depth(), 1);
        x.cut(0);
        CHECK.due("a fact", x.depth(), 0);
        x.strike(0);
        CHECK.due("nothing STANDS", x.depth(), -1);
        CHECK.due("nothing is there", new EightReasons().depth(), -1);
        CHECK.due("nine", Tape.of(chain()).depth(), 9);
    }

    // "of like ones the first; NONE if none is"
    private static void weakest() {
        EightReasons x = Tape.of("fact f;fact g;claim c needs 9;strand f c strong 2;strand g c strong 2;");
        CHECK.due("like ones: the first", x.weakest(), 0);
        x.tighten(1, 1);
        CHECK.due("the least", x.weakest(), 1);
        x.tighten(0, 0);
        CHECK.due("nothing is less", x.weakest(), 0);
        x.cut(0);
        CHECK.due("of those TIED", x.weakest(), 1);
        x.cut(1);
        CHECK.due("none is", x.weakest(), -1);
        CHECK.due("999", Tape.of("fact f;claim c needs 9;strand f c strong 2;bears 9999;").weakest(), 0);
    }

    // "NONE if there is none such"
    private static void lies() {
        EightReasons x = Tape.of(ROW);
        CHECK.due("nothing at first", x.lies(0), -1);
        CHECK.due("three", x.proof(2), 3);
        int[] due = {0, 1, 2, -1};
        for (int i = 0; i < due.length; i++) {
            CHECK.due("lies " + i, x.lies(i), due[i]);
        }
        for (int none : new int[] {-1, 9, 10, 11, Integer.MAX_VALUE, Integer.MIN_VALUE}) {
            CHECK.due("lies " + none, x.lies(none), -1);
        }
        CHECK.due("two", x.proof(1), 2);
        CHECK.due("those behind them are gone", x.lies(2), -1);
        x.strike(0);
        x.undo();
        x.image(0);
        x.back(0);
        x.stands();
        CHECK.due("two still", x.about(14), 2);
    }

    private static void odds(int fray, int n, int upper, int lower) {
        EightReasons x = Tape.of("fray " + fray + ";");
        CHECK.due("fray " + fray + ", upper of " + n, x.odds(n, 0), upper);
        CHECK.due("fray " + fray + ", lower of " + n, x.odds(n, 1), lower);
    }

    // "ODDS (n 0 .. 4) .. in lowest terms (0 of 1); NONE if one can't be"
    private static void odds() {
        for (int fray = 0; fray <= 100; fray++) {
            odds(fray, 0, 1, 1);
        }
        for (int n = 1; n <= 4; n++) {
            odds(0, n, 1, 1);
            odds(100, n, 0, 1);
            odds(50, n, 1, 1 << n);
            odds(75, n, 1, 1 << 2 * n);
        }
        odds(99, 1, 1, 100);
        odds(99, 4, 1, 100000000);
        odds(1, 1, 99, 100);
        odds(1, 4, 96059601, 100000000);
        odds(4, 4, 331776, 390625);
        EightReasons x = Tape.of("fray 30;");
        for (int n : new int[] {-1, 5, 6, Integer.MAX_VALUE, Integer.MIN_VALUE}) {
            CHECK.due("odds of " + n, x.odds(n, 0), -1);
            CHECK.due("odds of " + n + ", lower", x.odds(n, 1), -1);
        }
        for (int n = 0; n <= 4; n++) {
            CHECK.due("odds of " + n + ", part -1", x.odds(n, -1), -1);
            CHECK.due("odds of " + n + ", part 2", x.odds(n, 2), -1);
        }
    }
}
