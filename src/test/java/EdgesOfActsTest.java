/** Each sentence of "Terms", part 2, and of promises 6 to 18 and 57 to 59 that names a boundary, on both sides of it. */
public final class EdgesOfActsTest {
    private static final Check CHECK = new Check("edges of acts");

    private static final int[] NO_WHATS = {-1, 5, 6, 31, 32, Integer.MAX_VALUE, Integer.MIN_VALUE};
    private static final String ONE = "fact f;claim c needs 3;strand f c strong 4;";
    private static final String TWO = "fact f;fact g;claim c needs 5;strand f c strong 2;strand g c strong 3;";

    public static void main(String[] args) {
        atFirst();
        strongZeroBearsNothing();
        groundsAndBurden();
        zeroAtLeast999AtMost();
        wrapping();
        byZero();
        relations();
        asMuchAsTheyNeed();
        nothingElseButByThis();
        greatestSet();
        drawAndRest();
        seedByTiedAndStrong();
        lessStrongDownTo0();
        fortyAreKept();
        redoTillAnotherAct();
        points();
        strands();
        cutAndTie();
        tighten();
        strikeAndProve();
        behind999Days();
        boxes();
        backKeepsNoActs();
        about();
        CHECK.close();
    }

    private static int borne(String formula) {
        return Tape.of(ONE + "bears " + formula + ";").strand(0, 4);
    }

    private static void bears(String formula, int due) {
        CHECK.due("bears " + formula, borne(formula), due);
    }

    // "A fact is PROVED (at first)"; "A STRAND is TIED (at first) .. and so strong (as told, at first ..)"; "day (0 at first ..)"
    private static void atFirst() {
        EightReasons x = Tape.of(TWO + "draw 41;");
        CHECK.due("no fact is STRUCK at first", x.about(3), 0);
        CHECK.due("all STRANDS are TIED at first", x.about(4), 3);
        CHECK.due("day 0 at first", x.about(5), 0);
        CHECK.due("the SEED is draw at first", x.about(6), 41);
        CHECK.due("as strong as told", x.strand(0, 2) * 100 + x.strand(1, 2), 203);
        CHECK.due("day in bears at first", borne("day"), 0);
        CHECK.due("day plus 1 at first", borne("day+1"), 1);
    }

    // "(.. 0: it bears nothing)"; "A STRAND that is TIED and stronger than 0 BEARS what comes of bears ..; others 0"
    private static void strongZeroBearsNothing() {
        EightReasons x = Tape.of(ONE + "bears 7 - strong;");
        CHECK.due("strong 4", x.strand(0, 4), 3);
        x.tighten(0, 1);
        CHECK.due("strong 1", x.strand(0, 4), 6);
        CHECK.due("it stands by it", x.stands(), 3);
        x.tighten(0, 0);
        CHECK.due("strong 0", x.strand(0, 4), 0);
        CHECK.due("it does not stand by it", x.stands(), 1);
        x.tighten(0, 1);
        x.cut(0);
        CHECK.due("CUT", x.strand(0, 4), 0);
        CHECK.due("nothing stands by a CUT one", x.stands(), 1);
        EightReasons plain = Tape.of(ONE);
        CHECK.due("strong, if bears is not told", plain.strand(0, 4), 4);
        plain.tighten(0, 20);
        CHECK.due("20, if bears is not told", plain.strand(0, 4), 20);
        plain.tighten(0, 0);
        CHECK.due("0, if bears is not told", plain.strand(0, 4), 0);
    }

    // "grounds (how many STRANDS that are TIED lead to its claim), burden (how many that are TIED lead from its POINT)"
    private static void groundsAndBurden() {
        StringBuilder many = new StringBuilder("claim k needs 1;");
        for (int i = 0; i < 9; i++) {
            many.append("fact ").append((char) ('a' + i)).append(';');
        }
        for (int i = 0; i < 9; i++) {
            many.append("strand ").append((char) ('a' + i)).append(" k strong 1;");
        }
        EightReasons x = Tape.of(many + "bears grounds * 10 + burden;");
        CHECK.due("nine lead to it, one from each", x.strand(8, 4), 91);
        x.tighten(0, 0);
        CHECK.due("one that is not strong is TIED still", x.strand(8, 4), 91);
        x.cut(0);
        CHECK.due("one that is CUT leads there no more", x.strand(8, 4), 81);
        for (int i = 1; i < 8; i++) {
            x.cut(i);
        }
        CHECK.due("the last one alone", x.strand(8, 4), 11);
        EightReasons last = Tape.of(many.toString().replace("fact h;fact i;", "claim h needs 1;claim i needs 1;")
                .replace("strand a k", "strand a h strong 1;strand a i strong 1;strand b i strong 1;strand a k")
                + "bears strong * 100 + grounds * 10 + burden;");
        int[] due = {113, 123, 122, 193, 192, 191, 191, 191, 191, 191, 191, 191};
        for (int strand = 0; strand < due.length; strand++) {
            CHECK.due("each by its own two numbers, " + strand, last.strand(strand, 4), due[strand]);
        }
        EightReasons y = Tape.of(fan(9) + "bears grounds * 10 + burden;");
        CHECK.due("one leads to it, nine from its POINT", y.strand(0, 4), 19);
        y.cut(8);
        y.tighten(7, 0);
        CHECK.due("eight from its POINT", y.strand(0, 4), 18);
    }

    /** A fact that bears each of so many claims. */
    private static String fan(int claims) {
        StringBuilder text = new StringBuilder("fact z;");
        for (int i = 0; i < claims; i++) {
            text.append("claim ").append((char) ('a' + i)).append(" needs 1;");
        }
        for (int i = 0; i < claims; i++) {
            text.append("strand z ").append((char) ('a' + i)).append(" strong 1;");
        }
        return text.toString();
    }

    // "0 at least, 999 at most"
    private static void zeroAtLeast999AtMost() {
        bears("0-9999", 0);
        bears("0-1", 0);
        bears("0", 0);
        bears("1", 1);
        bears("998", 998);
        bears("999", 999);
        bears("1000", 999);
        bears("9999", 999);
        bears("0-1+999", 998);
        bears("1000-1", 999);
        bears("2000-1001", 999);
        EightReasons x = Tape.of(TWO + "bears 9999;");
        CHECK.due("each of two bears 999, both together more", x.firmest(1), 2 * 999 - 5);
        EightReasons y = Tape.of(TWO + "bears 5 - (strong = 2) * 100;");
        CHECK.due("one that comes to less than 0 takes nothing away", y.stands(), 7);
    }

    // "ints, wrapping"
    private static void wrapping() {
        String least = "4096*16*4096*8";
        bears(least + "<0", 1);
        bears(least + "-1>0", 1);
        bears("0-1-(" + least + "-1)=" + least, 1);
        bears("(" + least + "-1)+1<0", 1);
        bears("(" + least + "-1)+1=" + least, 1);
        bears("(" + least + "-1)>9999*9999", 1);
        bears("4096*16*4096*16", 0);
        bears("4096*16*4096*16+3", 3);
        bears(least + "/(0-1)=" + least, 1);
        bears(least + "%(0-1)+6", 6);
        bears("9999*9999*22", 0);
        bears("9999*9999*21>0", 1);
        bears(least, 0);
        bears(least + "-1", 999);
    }

    // "/ cut, % its rest, both by 0: 0"
    private static void byZero() {
        bears("7/0", 0);
        bears("7/0+5", 5);
        bears("7%0+5", 5);
        bears("0/0+5", 5);
        bears("0%0+5", 5);
        bears("7/1", 7);
        bears("7%1", 0);
        bears("7/2", 3);
        bears("7%2", 1);
        bears("(0-7)/2+9", 6);
        bears("(0-7)%2+9", 8);
        bears("7/(0-2)+9", 6);
        bears("7%(0-2)+9", 10);
        bears("(0-7)/(0-2)", 3);
        bears("(0-7)%(0-2)+9", 8);
        bears("(0-1)/2+9", 9);
        bears("1/2", 0);
        bears("5/day+3", 3);
        bears("5%day+3", 3);
    }

    // "relations, and, or, not are 1 or 0, of what is not 0"
    private static void relations() {
        int[][] pairs = {{1, 2}, {2, 2}, {3, 2}};
        int[][] due = {{1, 0, 0}, {0, 0, 1}, {0, 1, 0}};
        for (int i = 0; i < 3; i++) {
            bears(pairs[i][0] + "<" + pairs[i][1], due[i][0]);
            bears(pairs[i][0] + ">" + pairs[i][1], due[i][1]);
            bears(pairs[i][0] + "=" + pairs[i][1], due[i][2]);
        }
        String[] values = {"0", "1", "5", "(0-1)"};
        for (String left : values) {
            bears("not " + left, left.equals("0") ? 1 : 0);
            bears("not not " + left, left.equals("0") ? 0 : 1);
            for (String right : values) {
                bears(left + " and " + right, left.equals("0") || right.equals("0") ? 0 : 1);
                bears(left + " or " + right, left.equals("0") && right.equals("0") ? 0 : 1);
            }
        }
        bears("(0-1)<0", 1);
        bears("0-1<0", 1);
        bears("0>0-1", 1);
    }

    // "claims for which the STRANDS from POINTS that STAND BEAR as much together as they need"
    private static void asMuchAsTheyNeed() {
        EightReasons x = Tape.of(TWO);
        CHECK.due("just as much", x.stands(), 7);
        x.tighten(0, 1);
        CHECK.due("one less", x.stands(), 3);
        x.tighten(1, 4);
        CHECK.due("as much in another way", x.stands(), 7);
        x.tighten(1, 20);
        CHECK.due("more", x.stands(), 7);
        x.strike(1);
        CHECK.due("from a POINT that does not STAND", x.stands(), 1);
        EightReasons most = Tape.of("fact f;claim c needs 99;strand f c strong 20;bears strong * 5;");
        CHECK.due("99 by 100", most.stands(), 3);
        most.tighten(0, 19);
        CHECK.due("99 by 95", most.stands(), 1);
    }

    // "(nothing else but by this)"; "HOLLOW is what is TIGHT and does not STAND"
    private static void nothingElseButByThis() {
        EightReasons x = Tape.of("claim a needs 2;claim b needs 2;strand a b strong 2;strand b a strong 2;fact f;strand f a strong 2;");
        CHECK.due("all stand from f", x.stands(), 7);
        CHECK.due("all are tight", x.tight(), 7);
        CHECK.due("nothing is hollow", x.hollow(), 0);
        x.strike(2);
        CHECK.due("nothing stands", x.stands(), 0);
        CHECK.due("the two are tight", x.tight(), 3);
        CHECK.due("the two are hollow", x.hollow(), 3);
        x.prove(2);
        x.cut(2);
        CHECK.due("f stands alone", x.stands(), 4);
        CHECK.due("all are tight again", x.tight(), 7);
        CHECK.due("the two are hollow again", x.hollow(), 3);
        x.tighten(0, 1);
        CHECK.due("one less: not tight", x.tight(), 4);
        CHECK.due("one less: not hollow", x.hollow(), 0);
    }

    // "all claims of the greatest set of claims for each of which the STRANDS from these facts and from the claims of the set .."
    private static void greatestSet() {
        EightReasons x = Tape.of("claim a needs 1;claim b needs 1;claim c needs 2;claim d needs 1;fact f;strand a b strong 1;strand b a strong 1;"
                + "strand a c strong 1;strand f c strong 1;strand c d strong 1;");
        CHECK.due("a ring, and what hangs from it and a fact", x.tight(), 31);
        CHECK.due("hollow", x.hollow(), 15);
        x.strike(4);
        CHECK.due("a STRUCK fact bears nothing there", x.tight(), 3);
        x.prove(4);
        x.cut(1);
        CHECK.due("a ring that is cut takes all with it", x.tight(), 16);
    }

    private static int frayed(int fray, int draw) {
        EightReasons x = Tape.of(ONE + "fray " + fray + ";draw " + draw + ";");
        int bits = x.day();
        CHECK.due("1 less strong, or not", x.strand(0, 2), 4 - bits);
        return bits;
    }

    // "the SEED .. becomes its 137-fold and 71 more, modulo 1,000, and if its rest by 100 is less than fray tells"
    private static void drawAndRest() {
        // from 0 comes 71, from 17 comes 400, from 44 comes 99, from 999 comes 934
        CHECK.due("71, fray 71", frayed(71, 0), 0);
        CHECK.due("71, fray 72", frayed(72, 0), 1);
        CHECK.due("400, fray 0", frayed(0, 17), 0);
        CHECK.due("400, fray 1", frayed(1, 17), 1);
        CHECK.due("99, fray 99", frayed(99, 44), 0);
        CHECK.due("99, fray 100", frayed(100, 44), 1);
        CHECK.due("934, fray 34", frayed(34, 999), 0);
        CHECK.due("934, fray 35", frayed(35, 999), 1);
        int[][] seeds = {{0, 71}, {17, 400}, {44, 99}, {999, 934}, {1, 208}, {500, 571}};
        for (int[] seed : seeds) {
            EightReasons x = Tape.of(ONE + "draw " + seed[0] + ";");
            x.day();
            CHECK.due("the SEED behind " + seed[0], x.about(6), seed[1]);
        }
    }

    // "then, STRAND by STRAND that is TIED and stronger than 0"
    private static void seedByTiedAndStrong() {
        // 0 leads to 71, 798, 397, 460
        EightReasons x = Tape.of(TWO + "fray 72;");
        CHECK.due("both drawn, the first frays", x.day(), 1);
        CHECK.due("the SEED behind two", x.about(6), 798);
        EightReasons y = Tape.of(TWO + "fray 72;");
        y.cut(0);
        CHECK.due("the second is drawn first", y.day(), 2);
        CHECK.due("the SEED behind one", y.about(6), 71);
        CHECK.due("a CUT one stays as strong", y.strand(0, 2), 2);
        EightReasons z = Tape.of(TWO + "fray 72;");
        z.tighten(0, 0);
        CHECK.due("one that is not strong is not drawn for", z.day(), 2);
        CHECK.due("the SEED behind one again", z.about(6), 71);
        CHECK.due("it does not go below 0", z.strand(0, 2), 0);
        z.tighten(1, 0);
        CHECK.due("none is drawn for", z.day(), 0);
        CHECK.due("the SEED stays", z.about(6), 71);
        CHECK.due("the day goes up", z.about(5), 2);
        EightReasons w = Tape.of(TWO + "fray 72;");
        w.strike(0);
        CHECK.due("from a STRUCK fact it frays as well", w.day(), 1);
    }

    // "it is 1 less strong", "stronger than 0"
    private static void lessStrongDownTo0() {
        EightReasons x = Tape.of("fact f;claim c needs 1;strand f c strong 1;fray 100;");
        CHECK.due("the last of it frays", x.day(), 1);
        CHECK.due("strong 0", x.strand(0, 2), 0);
        CHECK.due("TIED still", x.strand(0, 3), 1);
        int seed = x.about(6);
        CHECK.due("nothing is left to fray", x.day(), 0);
        CHECK.due("no draw for it", x.about(6), seed);
        CHECK.due("strong 0 still", x.strand(0, 2), 0);
        CHECK.is(x.undo() && x.undo(), "taken back");
        CHECK.due("strong 1 again", x.strand(0, 2), 1);
        CHECK.due("the SEED again", x.about(6), 0);
    }

    // "40 at most are kept, the oldest go"; "false if there is none"
    private static void fortyAreKept() {
        for (int acts : new int[] {0, 1, 39, 40, 41, 42, 81, 82, 100}) {
            EightReasons x = Tape.of(ONE);
            for (int i = 0; i < acts; i++) {
                x.day();
            }
            int kept = Math.min(acts, 40);
            CHECK.due("kept of " + acts, x.about(7), kept);
            for (int i = 0; i < kept; i++) {
                CHECK.is(x.undo(), "undo " + i + " of " + acts);
                CHECK.due("the day behind it", x.about(5), acts - 1 - i);
            }
            CHECK.is(!x.undo(), "no undo more of " + acts);
            CHECK.due("the day stays", x.about(5), acts - kept);
            CHECK.due("to be redone", x.about(8), kept);
            for (int i = 0; i < kept; i++) {
                CHECK.is(x.redo(), "redo " + i + " of " + acts);
                CHECK.due("the day behind that", x.about(5), acts - kept + i + 1);
            }
            CHECK.is(!x.redo(), "no redo more of " + acts);
            CHECK.due("the day is back", x.about(5), acts);
            CHECK.due("kept as before", x.about(7), kept);
        }
    }

    // "REDO does that again which was taken back last (till another ACT)"
    private static void redoTillAnotherAct() {
        EightReasons x = Tape.of(TWO);
        x.cut(0);
        x.strike(0);
        x.tighten(1, 9);
        x.undo();
        x.undo();
        CHECK.due("two to be redone", x.about(8), 2);
        CHECK.due("cut(0) does nothing", x.cut(0), -1);
        CHECK.due("tie(1) does nothing", x.tie(1), -1);
        CHECK.due("tighten(1, 3) does nothing", x.tighten(1, 3), -1);
        CHECK.due("prove(0) does nothing", x.prove(0), -1);
        CHECK.due("strike(2) does nothing", x.strike(2), -1);
        x.image(0);
        x.stands();
        x.will(60, 1);
        x.proof(2);
        CHECK.due("two still", x.about(8), 2);
        CHECK.is(x.redo(), "the strike again");
        CHECK.due("struck", x.about(3), 1);
        CHECK.due("as strong as before", x.strand(1, 2), 3);
        CHECK.due("one to be redone", x.about(8), 1);
        x.tighten(1, 8);
        CHECK.due("none behind another ACT", x.about(8), 0);
        CHECK.is(!x.redo(), "nothing to be redone");
        CHECK.due("it is 8", x.strand(1, 2), 8);
        CHECK.due("three to be undone", x.about(7), 3);
        for (int act = 0; act < 6; act++) {
            EightReasons y = Tape.of(TWO);
            y.cut(1);
            y.strike(1);
            y.day();
            y.undo();
            CHECK.due("one to be redone", y.about(8), 1);
            doOne(y, act);
            CHECK.due("none behind ACT " + act, y.about(8), 0);
            CHECK.due("three to be undone", y.about(7), 3);
        }
    }

    private static void doOne(EightReasons x, int act) {
        switch (act) {
            case 0 -> x.cut(0);
            case 1 -> x.tie(1);
            case 2 -> x.tighten(0, 0);
            case 3 -> x.strike(0);
            case 4 -> x.prove(1);
            default -> x.day();
        }
    }

    // "0: 1 if it is a fact, else 0, 1: what it needs (0 of a fact), 2: 1 if it is STRUCK, else 0 ..; NONE if there is none such, or for
    // another what"
    private static void points() {
        EightReasons x = Tape.of(TWO);
        x.strike(1);
        int[][] due = {{1, 0, 0, 0, 1}, {1, 0, 1, 0, 2}, {0, 5, 0, 3, 0}};
        for (int point = 0; point < 3; point++) {
            for (int what = 0; what < 5; what++) {
                CHECK.due("point " + point + " " + what, x.point(point, what), due[point][what]);
            }
            for (int what : NO_WHATS) {
                CHECK.due("point " + point + " " + what, x.point(point, what), -1);
            }
        }
        for (int point : new int[] {-1, 3, 10, 31, 32, 33, 64, Integer.MAX_VALUE, Integer.MIN_VALUE}) {
            for (int what = -1; what < 6; what++) {
                CHECK.due("no point " + point + " " + what, x.point(point, what), -1);
            }
        }
        x.cut(0);
        CHECK.due("a CUT one leads there, too", x.point(2, 3), 3);
        CHECK.due("a CUT one leads from there, too", x.point(0, 4), 1);
    }

    // "2: how strong, 3: 1 if it is TIED, else 0, 4: what it BEARS; NONE if there is none such, or for another what"
    private static void strands() {
        EightReasons x = Tape.of(TWO);
        x.cut(1);
        int[][] due = {{0, 2, 2, 1, 2}, {1, 2, 3, 0, 0}};
        for (int strand = 0; strand < 2; strand++) {
            for (int what = 0; what < 5; what++) {
                CHECK.due("strand " + strand + " " + what, x.strand(strand, what), due[strand][what]);
            }
            for (int what : NO_WHATS) {
                CHECK.due("strand " + strand + " " + what, x.strand(strand, what), -1);
            }
        }
        for (int strand : new int[] {-1, 2, 12, 31, 32, 33, Integer.MAX_VALUE, Integer.MIN_VALUE}) {
            for (int what = -1; what < 6; what++) {
                CHECK.due("no strand " + strand + " " + what, x.strand(strand, what), -1);
            }
        }
        x.strike(0);
        CHECK.due("it BEARS from a STRUCK fact, too", x.strand(0, 4), 2);
    }

    // "NONE, doing nothing, if it is, or there is none such"
    private static void cutAndTie() {
        EightReasons x = Tape.of(fan(9));
        CHECK.due("nine claims, one cut", x.cut(8), 8);
        CHECK.due("it is CUT", x.cut(8), -1);
        CHECK.due("eight claims, one cut", x.cut(0), 7);
        CHECK.due("tie it", x.tie(8), 8);
        CHECK.due("it is TIED", x.tie(8), -1);
        CHECK.due("tie the first", x.tie(0), 9);
        CHECK.due("it is TIED, too", x.tie(0), -1);
        for (int none : new int[] {-1, 9, 12, 31, 32, 40, Integer.MAX_VALUE, Integer.MIN_VALUE}) {
            CHECK.due("cut " + none, x.cut(none), -1);
            CHECK.due("tie " + none, x.tie(none), -1);
        }
        CHECK.due("four ACTS", x.about(7), 4);
        CHECK.due("all TIED", x.about(4), 511);
        for (int i = 0; i < 9; i++) {
            CHECK.due("cut " + i, x.cut(i), 8 - i);
        }
        CHECK.due("none TIED", x.about(4), 0);
    }

    // "It is made so strong (0 .. 20): how strong it was; NONE, doing nothing, if it is so, or one can't be"
    private static void tighten() {
        EightReasons x = Tape.of(ONE);
        int[][] due = {{4, -1}, {21, -1}, {-1, -1}, {20, 4}, {20, -1}, {0, 20}, {0, -1}, {1, 0}, {Integer.MAX_VALUE, -1},
            {Integer.MIN_VALUE, -1}, {19, 1}};
        for (int[] row : due) {
            CHECK.due("tighten 0 " + row[0], x.tighten(0, row[0]), row[1]);
        }
        CHECK.due("as strong as made last", x.strand(0, 2), 19);
        CHECK.due("four ACTS", x.about(7), 4);
        for (int none : new int[] {-1, 1, 12, 32, Integer.MAX_VALUE, Integer.MIN_VALUE}) {
            CHECK.due("tighten " + none, x.tighten(none, 5), -1);
        }
        x.cut(0);
        CHECK.due("a CUT one", x.tighten(0, 3), 19);
        CHECK.due("it is CUT still", x.strand(0, 3), 0);
        CHECK.due("and 3 strong", x.strand(0, 2), 3);
    }

    // "NONE, doing nothing, if it is, or it is none"
    private static void strikeAndProve() {
        EightReasons x = Tape.of(TWO);
        CHECK.due("it is PROVED", x.prove(0), -1);
        CHECK.due("strike", x.strike(0), 0);
        CHECK.due("it is STRUCK", x.strike(0), -1);
        CHECK.due("the other one is PROVED", x.prove(1), -1);
        CHECK.due("prove", x.prove(0), 1);
        CHECK.due("it is PROVED again", x.prove(0), -1);
        for (int none : new int[] {-1, 2, 3, 10, 31, 32, 33, Integer.MAX_VALUE, Integer.MIN_VALUE}) {
            CHECK.due("strike " + none, x.strike(none), -1);
            CHECK.due("prove " + none, x.prove(none), -1);
        }
        CHECK.due("two ACTS", x.about(7), 2);
        CHECK.due("none STRUCK", x.about(3), 0);
        x.strike(0);
        x.strike(1);
        CHECK.due("all STRUCK", x.about(3), 3);
        CHECK.due("nothing stands", x.stands(), 0);
    }

    // "NONE, doing nothing, behind 999 of them"; "The day goes on beyond 999, too" (further than 512 calls, which is free)
    private static void behind999Days() {
        EightReasons x = Tape.of("fact f;claim c needs 1;strand f c strong 20;bears day < 1003;fray 100;");
        for (int i = 1; i <= 998; i++) {
            x.day();
        }
        CHECK.due("day 998", x.about(5), 998);
        CHECK.due("day 999 comes", x.day(), 0);
        CHECK.due("day 999", x.about(5), 999);
        CHECK.due("strong 0 by then", x.strand(0, 2), 0);
        CHECK.due("tied anew", x.tighten(0, 20), 0);
        int seed = x.about(6);
        CHECK.due("no day behind 999", x.day(), -1);
        CHECK.due("day 999 still", x.about(5), 999);
        CHECK.due("the SEED stays", x.about(6), seed);
        CHECK.due("as strong as it was", x.strand(0, 2), 20);
        CHECK.due("no ACT", x.about(7), 40);
        CHECK.due("falls on day 1003", x.fall(1), 4);
        CHECK.due("stands on day 1002", x.will(3, 0), 3);
        CHECK.due("not on day 1003", x.will(4, 0), 1);
        CHECK.due("fraying goes on beyond 999", x.will(4, 1), 1);
        x.undo();
        x.undo();
        CHECK.due("day 998 again", x.about(5), 998);
        CHECK.due("day 999 may come again", x.day(), 0);
    }

    // "in a BOX 0 .. 2: the day; NONE if there is none such"; "NONE, doing nothing, if nothing was"
    private static void boxes() {
        EightReasons x = Tape.of(TWO);
        for (int box : new int[] {-1, 3, 31, 32, 33, 34, Integer.MAX_VALUE, Integer.MIN_VALUE}) {
            CHECK.due("image " + box, x.image(box), -1);
            CHECK.due("back " + box, x.back(box), -1);
        }
        for (int box = 0; box < 3; box++) {
            CHECK.due("nothing kept in " + box, x.back(box), -1);
            CHECK.due("image " + box, x.image(box), box);
            x.day();
            for (int other = box + 1; other < 3; other++) {
                CHECK.due("nothing kept in " + other + " yet", x.back(other), -1);
            }
        }
        for (int box = 2; box >= 0; box--) {
            CHECK.due("back " + box, x.back(box), box);
            CHECK.due("the day of " + box, x.about(5), box);
            CHECK.due("back " + box + " again", x.back(box), box);
        }
        CHECK.due("kept anew", x.image(2), 0);
        CHECK.due("the new one", x.back(2), 0);
        CHECK.due("the other stays", x.back(1), 1);
    }

    // "What is STRUCK, TIED, how strong, the day, the SEED are kept"; "All is as it was kept (no ACTS are kept then)"
    private static void backKeepsNoActs() {
        EightReasons x = Tape.of(TWO + "fray 72;draw 0;");
        x.strike(1);
        x.cut(1);
        x.day();
        CHECK.due("image", x.image(1), 1);
        CHECK.due("image is no ACT", x.about(7), 3);
        x.prove(1);
        x.tie(1);
        x.day();
        x.tighten(0, 20);
        x.undo();
        CHECK.due("back to none does nothing", x.back(0), -1);
        CHECK.due("six to be undone", x.about(7), 6);
        CHECK.due("one to be redone", x.about(8), 1);
        CHECK.due("back", x.back(1), 1);
        int[] due = {3, 2, 3, 2, 1, 1, 71, 0, 0};
        for (int what = 0; what < due.length; what++) {
            CHECK.due("as kept, about " + what, x.about(what), due[what]);
        }
        CHECK.due("as strong as kept", x.strand(0, 2), 1);
        CHECK.due("the other as strong as kept", x.strand(1, 2), 3);
        CHECK.is(!x.undo() && !x.redo(), "no ACTS are kept");
        x.tie(1);
        CHECK.is(x.undo() && !x.undo(), "one ACT is kept then");
        CHECK.due("as kept again", x.about(4), 1);
    }

    // "NONE for another what"
    private static void about() {
        EightReasons x = Tape.of(TWO);
        for (int what : new int[] {-1, 15, 16, 31, 32, Integer.MAX_VALUE, Integer.MIN_VALUE}) {
            CHECK.due("about " + what, x.about(what), -1);
        }
        CHECK.due("about 0", x.about(0), 3);
        CHECK.due("about 14", x.about(14), 0);
        x.proof(2);
        CHECK.due("about 14 then", x.about(14), 3);
        x.counsels(2, 2);
        CHECK.due("about 14 behind NONE", x.about(14), 0);
        x.feed(0, 0, 0, 0, 0);
        CHECK.due("about 11", x.about(11), 20);
        x.end(3);
        CHECK.due("about 11 then", x.about(11), 3);
    }
}
