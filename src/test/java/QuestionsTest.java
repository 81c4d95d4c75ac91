/** Promises 16 to 50: what is asked of the web as it is. */
public final class QuestionsTest {
    private static final Check CHECK = new Check("questions");
    private static final String WEB = Tape.WEB;

    /** Two strands bear more together than one; three bear nothing. */
    private static final String CROWD = "fact f;fact g;fact h;claim c needs 4;strand f c strong 2;strand g c strong 2;strand h c strong 2;"
            + "bears strong * (grounds < 3);";

    public static void main(String[] args) {
        standing();
        will();
        topple();
        prop();
        pivotsAndPower();
        lackAndRank();
        ring();
        moot();
        fall();
        facts();
        spareAndBrings();
        firmest();
        ways();
        law();
        worth();
        with();
        perils();
        mend();
        proof();
        counsels();
        shock();
        small();
        odds();
        wrongClaims();
        claimsFirst();
        longest();
        CHECK.close();
    }

    private static void standing() {
        EightReasons x = Tape.of(WEB);
        CHECK.due("stands", x.stands(), 31);
        CHECK.due("tight", x.tight(), 31);
        CHECK.due("hollow", x.hollow(), 0);
        x.tighten(5, 2);
        x.tighten(3, 4);
        x.strike(0);
        CHECK.due("stands without f", x.stands(), 2);
        CHECK.due("tight without f", x.tight(), 0b11010);
        CHECK.due("hollow without f", x.hollow(), 0b11000);
        x.strike(1);
        CHECK.due("nothing stands", x.stands(), 0);
        CHECK.due("tight without facts", x.tight(), 0b11000);
        x.cut(3);
        CHECK.due("nothing is tight", x.tight(), 0);
        EightReasons crowd = Tape.of(CROWD);
        CHECK.due("too many", crowd.stands(), 7);
        crowd.cut(1);
        CHECK.due("just enough", crowd.stands(), 15);
    }

    private static void will() {
        EightReasons x = Tape.of("fact f;claim c needs 3;strand f c strong 5;fray 100;");
        CHECK.due("now", x.will(0, 1), 3);
        CHECK.due("in 2 days", x.will(2, 1), 3);
        CHECK.due("in 3 days", x.will(3, 1), 1);
        CHECK.due("in 3 days, no fraying", x.will(3, 0), 3);
        CHECK.due("in 60 days, no fraying", x.will(60, 0), 3);
        CHECK.due("in 60 days", x.will(60, 1), 1);
        CHECK.due("in 61", x.will(61, 0), -1);
        CHECK.due("in -1", x.will(-1, 0), -1);
        CHECK.due("what 2", x.will(1, 2), -1);
        CHECK.due("what -1", x.will(1, -1), -1);
        CHECK.due("nothing is done", x.about(5) + x.about(6) + x.about(7), 0);
        CHECK.due("nothing frays", x.strand(0, 2), 5);
        EightReasons y = Tape.of("fact f;claim c needs 4;strand f c strong 5;bears strong * (day % 4 < 2);");
        CHECK.due("day 1", y.will(1, 0), 3);
        CHECK.due("day 2", y.will(2, 0), 1);
        CHECK.due("day 4", y.will(4, 1), 3);
        y.day();
        CHECK.due("day 2 from day 1", y.will(1, 0), 1);
    }

    private static void topple() {
        EightReasons x = Tape.of(WEB);
        for (int claim = 2; claim < 5; claim++) {
            CHECK.due("topple " + claim, x.topple(claim, 0), 1);
            CHECK.due("which " + claim, x.topple(claim, 1), 1);
        }
        x.tighten(1, 3);
        CHECK.due("two for a", x.topple(2, 0), 2);
        CHECK.due("which two for a", x.topple(2, 1), 3);
        CHECK.due("one for b", x.topple(3, 1), 4);
        x.tighten(5, 2);
        x.tighten(4, 4);
        CHECK.due("b by a or by c", x.topple(3, 0), 2);
        CHECK.due("the least of them", x.topple(3, 1), 20);
        x.cut(2);
        CHECK.due("those that are cut don't count", x.topple(3, 1), 16);
        x.strike(1);
        CHECK.due("b does not stand", x.topple(3, 0), 0);
        CHECK.due("none of them", x.topple(3, 1), 0);
        CHECK.due("what 2", x.topple(3, 2), -1);
        EightReasons crowd = Tape.of(CROWD);
        crowd.cut(0);
        CHECK.due("one of two", crowd.topple(3, 1), 2);
    }

    private static void prop() {
        EightReasons x = Tape.of(WEB);
        CHECK.due("prop a", x.prop(2, 0), 1);
        CHECK.due("which a", x.prop(2, 1), 1);
        CHECK.due("prop b", x.prop(3, 0), 2);
        CHECK.due("which b", x.prop(3, 1), 5);
        CHECK.due("prop c", x.prop(4, 0), 4);
        CHECK.due("which c", x.prop(4, 1), 29);
        x.tighten(4, 4);
        CHECK.due("c by g alone", x.prop(4, 1), 16);
        x.tighten(5, 2);
        CHECK.due("b by two ways, the least", x.prop(3, 1), 5);
        x.cut(2);
        CHECK.due("b by the other", x.prop(3, 1), 48);
        x.cut(4);
        CHECK.due("b does not stand", x.prop(3, 0), -1);
        CHECK.due("b does not stand: which", x.prop(3, 1), -1);
        CHECK.due("what 2", x.prop(2, 2), -1);
        CHECK.due("what -1", x.prop(2, -1), -1);
        EightReasons crowd = Tape.of(CROWD);
        CHECK.due("it would by fewer, but does not stand", crowd.prop(3, 0), -1);
    }

    private static void pivotsAndPower() {
        EightReasons x = Tape.of(WEB);
        CHECK.due("pivots a", x.pivots(2), 1);
        CHECK.due("pivots b", x.pivots(3), 5);
        CHECK.due("pivots c", x.pivots(4), 29);
        CHECK.due("power of 0 for a", x.power(2, 0), 32);
        CHECK.due("power of 1 for a", x.power(2, 1), 0);
        CHECK.due("power of 2 for b", x.power(3, 2), 16);
        CHECK.due("power of 5 for b", x.power(3, 5), 0);
        CHECK.due("power of 4 for c", x.power(4, 4), 4);
        x.cut(1);
        CHECK.due("power of 0 for a, fewer tied", x.power(2, 0), 16);
        CHECK.due("power of a cut one", x.power(2, 1), -1);
        CHECK.due("power of none", x.power(2, 6), -1);
        CHECK.due("power of -1", x.power(2, -1), -1);
        CHECK.due("power for a fact", x.power(0, 0), -1);
        x.cut(0);
        CHECK.due("pivots of what does not stand", x.pivots(2), 0);
        CHECK.due("power of 2 for what can't stand", x.power(3, 2), 0);
        EightReasons crowd = Tape.of(CROWD);
        CHECK.due("power in a crowd: with just one other", crowd.power(3, 0), 2);
        CHECK.due("pivots in a crowd", crowd.pivots(3), 0);
    }

    private static void lackAndRank() {
        EightReasons x = Tape.of(WEB);
        int[] ranks = {0, 0, 1, 2, 3};
        for (int point = 0; point < 5; point++) {
            CHECK.due("rank " + point, x.rank(point), ranks[point]);
        }
        CHECK.due("depth", x.depth(), 3);
        CHECK.due("lack of what stands", x.lack(2), 0);
        x.strike(0);
        CHECK.due("lack a", x.lack(2), 1);
        CHECK.due("lack b", x.lack(3), 2);
        CHECK.due("lack c", x.lack(4), 2);
        CHECK.due("rank of a struck one", x.rank(0), -1);
        CHECK.due("rank of what does not stand", x.rank(2), -1);
        CHECK.due("depth of a fact", x.depth(), 0);
        x.strike(1);
        CHECK.due("depth of nothing", x.depth(), -1);
        CHECK.due("lack a without all", x.lack(2), 3);
        CHECK.due("rank 5", x.rank(5), -1);
        CHECK.due("rank -1", x.rank(-1), -1);
        EightReasons y = Tape.of("fact f;claim a needs 1;claim b needs 3;strand f a strong 1;strand f b strong 2;strand a b strong 1;");
        CHECK.due("in the second round only", y.rank(2), 2);
        y.tighten(1, 3);
        CHECK.due("in the first", y.rank(2), 1);
    }

    private static void ring() {
        EightReasons x = Tape.of(WEB);
        CHECK.due("no ring", x.ring(0), -1);
        CHECK.due("no ring: which", x.ring(1), -1);
        x.tighten(5, 2);
        CHECK.due("half a ring", x.ring(0), -1);
        x.tighten(3, 4);
        CHECK.due("ring", x.ring(0), 2);
        CHECK.due("ring: which", x.ring(1), 24);
        CHECK.due("what 2", x.ring(2), -1);
        x.cut(5);
        CHECK.due("a ring that is cut", x.ring(1), -1);
        EightReasons y = Tape.of("claim a needs 1;claim b needs 1;claim c needs 1;claim d needs 1;claim e needs 1;strand a b strong 1;"
                + "strand b c strong 1;strand c a strong 1;strand d e strong 1;strand e d strong 1;");
        CHECK.due("the smaller ring", y.ring(1), 24);
        y.cut(3);
        CHECK.due("the greater one", y.ring(0), 3);
        CHECK.due("the greater one: which", y.ring(1), 7);
        EightReasons z = Tape.of("claim a needs 1;claim b needs 1;claim c needs 1;strand b c strong 1;strand c b strong 1;strand a c strong 1;"
                + "strand c a strong 1;");
        CHECK.due("of like ones the least", z.ring(1), 5);
    }

    private static void moot() {
        EightReasons x = Tape.of(WEB);
        CHECK.due("one move", x.moot(2, 1, 0), 0);
        CHECK.due("one move: which", x.moot(2, 1, 1), 0);
        CHECK.due("two moves", x.moot(2, 2, 0), 1);
        CHECK.due("two moves: which", x.moot(2, 2, 1), -1);
        CHECK.due("three moves", x.moot(2, 3, 0), 0);
        CHECK.due("three moves: nothing does as well", x.moot(2, 3, 1), -1);
        x.tighten(1, 3);
        CHECK.due("one cut is not enough", x.moot(2, 1, 0), 1);
        CHECK.due("nor in three moves", x.moot(2, 3, 0), 1);
        CHECK.due("nothing then", x.moot(2, 3, 1), -1);
        x.cut(0);
        CHECK.due("one of one", x.moot(2, 1, 1), 1);
        CHECK.due("three moves with both at it", x.moot(2, 3, 0), 0);
        CHECK.due("cut it first", x.moot(2, 3, 1), 1);
        CHECK.due("n 0", x.moot(2, 0, 0), -2);
        CHECK.due("n 4", x.moot(2, 4, 0), -2);
        CHECK.due("what 2", x.moot(2, 1, 2), -2);
        CHECK.due("what -1", x.moot(2, 1, -1), -2);
        CHECK.due("a fact", x.moot(0, 1, 0), -2);
        CHECK.due("no point", x.moot(9, 1, 0), -2);
        EightReasons crowd = Tape.of(CROWD);
        crowd.cut(0);
        CHECK.due("by tying, too, but the least number", crowd.moot(3, 1, 1), 0);
        CHECK.due("what was tied is cut again", crowd.moot(3, 2, 0), 1);
    }

    private static void fall() {
        EightReasons x = Tape.of("fact f;claim c needs 4;claim d needs 1;strand f c strong 9;strand f d strong 9;strand c d strong 1;bears strong - day / 2;");
        CHECK.due("falls when 9 - day / 2 is 3", x.fall(1), 12);
        CHECK.due("falls when 9 - day / 2 is 0", x.fall(2), 18);
        x.day();
        CHECK.due("one day nearer", x.fall(1), 11);
        x.cut(0);
        CHECK.due("it is down", x.fall(1), 0);
        EightReasons y = Tape.of("fact f;claim c needs 1;strand f c strong 1;fray 100;bears 60 - day + 1 > 0;");
        CHECK.due("on the last day of those looked at, nothing fraying", y.fall(1), -1);
        EightReasons z = Tape.of("fact f;claim c needs 1;strand f c strong 1;fray 100;bears day < 60;");
        CHECK.due("on day 60", z.fall(1), 60);
    }

    private static void facts() {
        EightReasons x = Tape.of(WEB);
        CHECK.due("keystone", x.keystone(0), 0);
        CHECK.due("keystone leaves", x.keystone(1), 0);
        CHECK.due("what 2", x.keystone(2), -1);
        CHECK.due("holds f", x.holds(0), 28);
        CHECK.due("holds g", x.holds(1), 16);
        CHECK.due("holds a claim", x.holds(2), -1);
        CHECK.due("holds none", x.holds(7), -1);
        x.strike(0);
        CHECK.due("of those that are proved", x.keystone(0), 1);
        CHECK.due("leaves", x.keystone(1), 0);
        CHECK.due("holds a struck one", x.holds(0), -1);
        CHECK.due("holds nothing more", x.holds(1), 0);
        x.strike(1);
        CHECK.due("no keystone", x.keystone(0), -1);
        CHECK.due("no keystone leaves", x.keystone(1), -1);
        EightReasons y = Tape.of("fact f;fact g;fact h;claim a needs 1;claim b needs 1;claim c needs 1;strand f a strong 1;strand g b strong 1;"
                + "strand g c strong 1;strand h b strong 1;strand h c strong 1;");
        CHECK.due("the one that has no other beside it", y.keystone(0), 0);
        CHECK.due("leaves two", y.keystone(1), 2);
        y.strike(2);
        CHECK.due("now g", y.keystone(0), 1);
        CHECK.due("leaves one", y.keystone(1), 1);
    }

    private static void spareAndBrings() {
        EightReasons x = Tape.of(WEB);
        CHECK.due("spare", x.spare(), 34);
        CHECK.due("brings 0", x.brings(0), 28);
        CHECK.due("brings 1", x.brings(1), 0);
        CHECK.due("brings 4", x.brings(4), 16);
        CHECK.due("brings 6", x.brings(6), -1);
        CHECK.due("brings -1", x.brings(-1), -1);
        x.cut(1);
        CHECK.due("spare of those tied", x.spare(), 32);
        CHECK.due("brings a cut one", x.brings(1), -1);
        EightReasons crowd = Tape.of(CROWD);
        CHECK.due("more stand without: not the same", crowd.spare(), 0);
        CHECK.due("what comes up is not brought down", crowd.brings(0), 0);
    }

    private static void firmest() {
        EightReasons x = Tape.of(WEB);
        CHECK.due("firmest", x.firmest(0), 2);
        CHECK.due("by", x.firmest(1), 2);
        x.tighten(3, 4);
        CHECK.due("of like ones the first", x.firmest(0), 2);
        x.tighten(3, 5);
        CHECK.due("another", x.firmest(0), 4);
        CHECK.due("by more", x.firmest(1), 3);
        CHECK.due("what 2", x.firmest(2), -1);
        x.strike(0);
        CHECK.due("none stands", x.firmest(0), -1);
        CHECK.due("none stands: by", x.firmest(1), -1);
        EightReasons y = Tape.of("fact f;claim a needs 3;strand f a strong 3;");
        CHECK.due("with nothing beyond", y.firmest(0), 1);
        CHECK.due("nothing beyond", y.firmest(1), 0);
    }

    private static void ways() {
        EightReasons x = Tape.of(WEB);
        CHECK.due("burdened", x.burdened(), 1);
        CHECK.due("roots a", x.roots(2), 3);
        CHECK.due("roots b", x.roots(3), 3);
        CHECK.due("path f c", x.path(0, 4), 3);
        CHECK.due("path g c", x.path(1, 4), 1);
        CHECK.due("path c b", x.path(4, 3), 1);
        CHECK.due("path b a", x.path(3, 2), -1);
        CHECK.due("path c c", x.path(4, 4), 0);
        CHECK.due("path to a fact", x.path(2, 0), -1);
        CHECK.due("path of a fact to itself", x.path(0, 0), -1);
        CHECK.due("path from none", x.path(5, 2), -1);
        CHECK.due("path to none", x.path(0, 5), -1);
        x.cut(1);
        x.strike(0);
        x.tighten(0, 0);
        CHECK.due("roots a: a struck one by one that bears nothing", x.roots(2), 1);
        CHECK.due("roots c", x.roots(4), 3);
        CHECK.due("burdened: the first", x.burdened(), 0);
        x.cut(0);
        CHECK.due("roots of none", x.roots(2), 0);
        CHECK.due("roots c still", x.roots(4), 2);
        CHECK.due("gaps", x.gaps(), 4);
        x.cut(3);
        x.cut(4);
        CHECK.due("gaps of two", x.gaps(), 20);
        CHECK.due("burdened without points", new EightReasons().burdened(), -1);
    }

    private static void law() {
        EightReasons x = Tape.of(WEB);
        int[] due = {3, 3, 3, 1, 1, 1, 0};
        for (int n = 0; n < due.length; n++) {
            CHECK.due("law " + n, x.law(n), due[n]);
        }
        CHECK.due("law 99", x.law(99), 0);
        CHECK.due("law 100", x.law(100), -1);
        CHECK.due("law -1", x.law(-1), -1);
        x.strike(0);
        x.strike(1);
        CHECK.due("law 0 without facts", x.law(0), 3);
        EightReasons y = Tape.of("fact f;claim c needs 9;strand f c strong 1;bears needs * 2 - 10;");
        CHECK.due("needs in bears: 9", y.law(9), 0);
        CHECK.due("needs in bears: 10", y.law(10), 1);
        CHECK.due("as it is", y.stands(), 1);
    }

    private static void worth() {
        EightReasons x = Tape.of(WEB);
        CHECK.due("worth a", x.worth(2), 5);
        CHECK.due("worth b", x.worth(3), 2);
        CHECK.due("worth c", x.worth(4), 5);
        x.strike(0);
        x.strike(1);
        CHECK.due("worth of nothing", x.worth(2), 0);
        EightReasons y = Tape.of("fact f;claim c needs 9;claim d needs 2;strand f c strong 1;strand f d strong 1;bears needs - (needs > 50);");
        CHECK.due("needs in bears", y.worth(1), 50);
        CHECK.due("all others as they are", y.stands(), 7);
        EightReasons z = Tape.of("fact f;claim c needs 1;strand f c strong 1;bears 999;");
        CHECK.due("the most", z.worth(1), 99);
    }

    private static void with() {
        EightReasons x = Tape.of(WEB);
        x.cut(0);
        CHECK.due("none", x.with(0), 3);
        CHECK.due("a cut one", x.with(1), 7);
        CHECK.due("two", x.with(5), 15);
        CHECK.due("four", x.with(29), 31);
        CHECK.due("all", x.with(63), 31);
        CHECK.due("one too many", x.with(64), -1);
        CHECK.due("-1", x.with(-1), -1);
        CHECK.due("the highest bit", x.with(Integer.MIN_VALUE), -1);
        x.strike(1);
        CHECK.due("struck as it is", x.with(63), 13);
    }

    private static void perils() {
        EightReasons x = Tape.of(WEB);
        CHECK.due("one for a", x.perils(2, 0), 1);
        CHECK.due("two for a", x.perils(2, 1), 5);
        CHECK.due("one for c", x.perils(4, 0), 4);
        CHECK.due("two for c", x.perils(4, 1), 14);
        x.tighten(1, 3);
        CHECK.due("one for a then", x.perils(2, 0), 0);
        CHECK.due("two for a then", x.perils(2, 1), 1);
        CHECK.due("what 2", x.perils(2, 2), -1);
        CHECK.due("what -1", x.perils(2, -1), -1);
        x.cut(0);
        CHECK.due("of those tied", x.perils(2, 1), 4);
        x.cut(1);
        CHECK.due("it does not stand", x.perils(2, 0), -1);
    }

    private static void mend() {
        EightReasons x = Tape.of(WEB);
        CHECK.due("it stands", x.mend(4, 0), 0);
        CHECK.due("it stands: which", x.mend(4, 1), 0);
        x.cut(0);
        x.cut(1);
        x.cut(2);
        CHECK.due("mend a", x.mend(2, 1), 1);
        CHECK.due("mend b", x.mend(3, 0), 2);
        CHECK.due("mend b: which", x.mend(3, 1), 5);
        x.tighten(0, 2);
        CHECK.due("mend b by more", x.mend(3, 1), 7);
        x.strike(0);
        CHECK.due("by none", x.mend(3, 0), -1);
        CHECK.due("by none: which", x.mend(3, 1), -1);
        CHECK.due("what 2", x.mend(2, 2), -1);
        EightReasons crowd = Tape.of(CROWD);
        CHECK.due("tying can't help", crowd.mend(3, 0), -1);
        crowd.cut(1);
        crowd.cut(2);
        CHECK.due("the least of two", crowd.mend(3, 1), 2);
    }

    private static void proof() {
        EightReasons x = Tape.of("fact f;claim top needs 1;claim mid needs 1;fact g;claim low needs 2;strand f low strong 2;strand low mid strong 1;"
                + "strand mid top strong 1;");
        CHECK.due("proof", x.proof(1), 5);
        int[] due = {0, 3, 4, 2, 1};
        for (int i = 0; i < due.length; i++) {
            CHECK.due("lies " + i, x.lies(i), due[i]);
        }
        CHECK.due("lies 5", x.lies(5), -1);
        CHECK.due("lies -1", x.lies(-1), -1);
        CHECK.due("about 14", x.about(14), 5);
        CHECK.due("proof of mid", x.proof(2), 4);
        CHECK.due("mid lies last", x.lies(3), 2);
        CHECK.due("top does not", x.lies(4), -1);
        x.cut(0);
        CHECK.due("what lies stays", x.about(14), 4);
        CHECK.due("it does not stand", x.proof(2), -1);
        CHECK.due("nothing lies", x.about(14), 0);
        x.tie(0);
        x.proof(2);
        CHECK.due("of a fact", x.proof(0), -1);
        CHECK.due("nothing lies behind it", x.lies(0), -1);
        EightReasons y = Tape.of("fact f;claim a needs 2;claim b needs 1;strand f a strong 1;strand f b strong 1;strand b a strong 1;strand a b strong 9;");
        CHECK.due("the prop is all that's needed", y.proof(1), 3);
        CHECK.due("b first", y.lies(1), 2);
        y.tighten(0, 2);
        CHECK.due("by one alone", y.proof(1), 2);
        CHECK.due("a at once", y.lies(1), 1);
    }

    private static void counsels() {
        EightReasons x = Tape.of("fact f;claim a needs 1;claim b needs 1;strand f a strong 1;strand f b strong 1;");
        CHECK.due("each cuts the other's", x.counsels(1, 2), 1);
        CHECK.due("a's", x.lies(0), 1);
        CHECK.due("b's", x.lies(1), 0);
        CHECK.due("two lie", x.about(14), 2);
        CHECK.due("the other way round", x.counsels(2, 1), 1);
        CHECK.due("b's first", x.lies(0), 0);
        CHECK.due("a's then", x.lies(1), 1);
        CHECK.due("one claim", x.counsels(1, 1), -1);
        CHECK.due("nothing lies", x.about(14), 0);
        x.counsels(1, 2);
        CHECK.due("a fact", x.counsels(0, 1), -1);
        CHECK.due("nothing lies behind a fact", x.lies(0), -1);
        CHECK.due("no claim", x.counsels(1, 3), -1);
        x.cut(0);
        CHECK.due("one strand for both", x.counsels(1, 2), 1);
        CHECK.due("it", x.lies(0), 1);
        CHECK.due("it too", x.lies(1), 1);
        x.cut(1);
        CHECK.due("none tied", x.counsels(1, 2), -1);
        CHECK.due("nothing lies then", x.about(14), 0);
    }

    private static void shock() {
        EightReasons x = Tape.of(WEB);
        CHECK.due("shock 0", x.shock(0), 3);
        CHECK.due("shock 1", x.shock(1), 1);
        CHECK.due("shock 2", x.shock(2), 0);
        CHECK.due("shock 20", x.shock(20), 0);
        CHECK.due("shock 21", x.shock(21), -1);
        CHECK.due("shock -1", x.shock(-1), -1);
        EightReasons y = Tape.of("fact f;claim c needs 1;strand f c strong 4;bears 1;");
        CHECK.due("as long as it is strong at all", y.shock(3), 1);
        CHECK.due("not then", y.shock(4), 0);
        CHECK.due("not then, either", y.shock(5), 0);
    }

    private static void small() {
        EightReasons x = Tape.of(WEB);
        CHECK.due("best a", x.best(2), 0);
        CHECK.due("best c", x.best(4), 3);
        x.tighten(4, 3);
        CHECK.due("best c, of like ones the first", x.best(4), 3);
        CHECK.due("weakest", x.weakest(), 5);
        x.tighten(1, 1);
        CHECK.due("weakest, of like ones the first", x.weakest(), 1);
        x.tighten(4, 0);
        CHECK.due("weakest bears nothing", x.weakest(), 4);
        x.cut(4);
        CHECK.due("weakest of those tied", x.weakest(), 1);
        x.strike(0);
        CHECK.due("best a from what stands", x.best(2), 1);
        CHECK.due("best b from none", x.best(3), -1);
        CHECK.due("gaps", x.gaps(), 0);
        EightReasons y = Tape.of("fact f;claim c needs 1;strand f c strong 4;bears 0;");
        CHECK.due("none bears", y.best(1), -1);
        CHECK.due("weakest though", y.weakest(), 0);
        y.cut(0);
        CHECK.due("none is tied", y.weakest(), -1);
    }

    private static void odds() {
        EightReasons x = Tape.of("fray 30;");
        int[][] due = {{1, 1}, {7, 10}, {49, 100}, {343, 1000}, {2401, 10000}};
        for (int n = 0; n < due.length; n++) {
            CHECK.due("upper " + n, x.odds(n, 0), due[n][0]);
            CHECK.due("lower " + n, x.odds(n, 1), due[n][1]);
        }
        CHECK.due("n 5", x.odds(5, 0), -1);
        CHECK.due("n -1", x.odds(-1, 0), -1);
        CHECK.due("part 2", x.odds(1, 2), -1);
        CHECK.due("part -1", x.odds(1, -1), -1);
        EightReasons all = Tape.of("fray 100;");
        CHECK.due("surely", all.odds(3, 0), 0);
        CHECK.due("of 1", all.odds(3, 1), 1);
        CHECK.due("in no days", all.odds(0, 0), 1);
        CHECK.due("none frays", new EightReasons().odds(4, 1), 1);
        EightReasons odd = Tape.of("fray 1;");
        CHECK.due("99 four times", odd.odds(4, 0), 96059601);
        CHECK.due("of 100 four times", odd.odds(4, 1), 100000000);
    }

    private static void wrongClaims() {
        EightReasons x = Tape.of(WEB);
        for (int none : new int[] {-1, 0, 1, 5, 10, 31, 32, 34, Integer.MAX_VALUE, Integer.MIN_VALUE}) {
            CHECK.due("topple " + none, x.topple(none, 0), -1);
            CHECK.due("prop " + none, x.prop(none, 0), -1);
            CHECK.due("pivots " + none, x.pivots(none), -1);
            CHECK.due("power " + none, x.power(none, 0), -1);
            CHECK.due("lack " + none, x.lack(none), -1);
            CHECK.due("moot " + none, x.moot(none, 1, 0), -2);
            CHECK.due("fall " + none, x.fall(none), -1);
            CHECK.due("roots " + none, x.roots(none), -1);
            CHECK.due("worth " + none, x.worth(none), -1);
            CHECK.due("perils " + none, x.perils(none, 0), -1);
            CHECK.due("mend " + none, x.mend(none, 0), -1);
            CHECK.due("proof " + none, x.proof(none), -1);
            CHECK.due("counsels " + none, x.counsels(2, none), -1);
            CHECK.due("best " + none, x.best(none), -1);
            CHECK.due("path to " + none, x.path(2, none), -1);
            CHECK.due("seen " + none, x.seen(none, true), -1);
        }
    }

    /** A claim that is POINT 0 and STRAND 0 counts as all others do. */
    private static void claimsFirst() {
        EightReasons x = Tape.of("claim a needs 2;fact f;claim b needs 2;strand f a strong 4;strand a b strong 2;strand b a strong 2;");
        CHECK.due("stands", x.stands(), 7);
        CHECK.due("rank", x.rank(0), 1);
        CHECK.due("rank behind it", x.rank(2), 2);
        CHECK.due("depth", x.depth(), 2);
        CHECK.due("law 4", x.law(4), 1);
        CHECK.due("law 2", x.law(2), 2);
        CHECK.due("firmest", x.firmest(0), 0);
        CHECK.due("firmest by", x.firmest(1), 4);
        CHECK.due("ring", x.ring(1), 5);
        CHECK.due("keystone", x.keystone(0), 1);
        CHECK.due("brings", x.brings(0), 5);
        CHECK.due("ask a: up in 4 of 7", x.ask(0, 0), 0);
        CHECK.due("ask: left", x.ask(1, 0), 4);
        CHECK.due("perils", x.perils(0, 1), 2);
        x.cut(0);
        CHECK.due("gaps", x.gaps(), 0);
        CHECK.due("hollow", x.hollow(), 5);
        x.cut(2);
        CHECK.due("gaps of 0", x.gaps(), 1);
        CHECK.due("tight", x.tight(), 2);
        x.undo();
        x.undo();
        CHECK.due("proof", x.proof(2), 3);
        CHECK.due("fact first", x.lies(0), 1);
        CHECK.due("then a", x.lies(1), 0);
        CHECK.due("then b", x.lies(2), 2);
    }

    /** Ten POINTS, one behind the other, told from the last to the first. */
    private static void longest() {
        StringBuilder text = new StringBuilder();
        for (int i = 0; i < 9; i++) {
            text.append("claim ").append((char) ('a' + i)).append(" needs 1;");
        }
        text.append("fact j;");
        for (int i = 0; i < 9; i++) {
            text.append("strand ").append((char) ('b' + i)).append(' ').append((char) ('a' + i)).append(" strong 1;");
        }
        EightReasons x = Tape.of(text.toString());
        CHECK.due("all stand", x.stands(), 1023);
        CHECK.due("depth", x.depth(), 9);
        CHECK.due("path", x.path(9, 0), 9);
        CHECK.due("roots", x.roots(0), 512);
        CHECK.due("prop", x.prop(0, 0), 9);
        CHECK.due("proof", x.proof(0), 10);
        for (int i = 0; i < 10; i++) {
            CHECK.due("lies " + i, x.lies(i), 9 - i);
        }
        x.strike(9);
        CHECK.due("tight", x.tight(), 0);
        EightReasons turned = Tape.of(text.toString());
        turned.cut(8);
        CHECK.due("tight from the far end", turned.tight(), 512);
        CHECK.due("mend", turned.mend(0, 1), 256);
    }
}
