/** Promises 6 to 15 and 57 to 59: what there is, ACTS, UNDO and REDO, BOXES, about. */
public final class ActsTest {
    private static final Check CHECK = new Check("acts");

    private static final String WEB = Tape.WEB;

    /** That of the shared test: from seed 7, six draws leave 30, 81, 68, 87, 90 and 1 in 100. */
    private static final String FRAYING = "fact post;fact comet;claim plea needs 5;claim shade needs 3;claim ring needs 2;claim loop needs 2;"
            + "strand post plea strong 3;strand comet plea strong 3;strand plea shade strong 3;strand ring loop strong 2;"
            + "strand loop ring strong 2;strand shade plea strong 2;fray 30;draw 7;";

    public static void main(String[] args) {
        points();
        strands();
        cutAndTie();
        tighten();
        strikeAndProve();
        days();
        undoAndRedo();
        boxes();
        about();
        CHECK.close();
    }

    private static void points() {
        EightReasons x = Tape.of(WEB);
        int[][] due = {{1, 0, 0, 0, 1}, {1, 0, 0, 0, 18}, {0, 3, 0, 3, 4}, {0, 2, 0, 36, 8}, {0, 4, 0, 24, 32}};
        for (int point = 0; point < due.length; point++) {
            for (int what = 0; what < 5; what++) {
                CHECK.due("point " + point + " " + what, x.point(point, what), due[point][what]);
            }
            CHECK.due("point, what 5", x.point(point, 5), -1);
            CHECK.due("point, what -1", x.point(point, -1), -1);
        }
        x.cut(0);
        x.strike(0);
        CHECK.due("struck", x.point(0, 2), 1);
        CHECK.due("not struck", x.point(1, 2), 0);
        CHECK.due("leads to it though cut", x.point(2, 3), 3);
        CHECK.due("leads from it though cut", x.point(0, 4), 1);
        CHECK.due("no point -1", x.point(-1, 0), -1);
        CHECK.due("no point 5", x.point(5, 0), -1);
    }

    private static void strands() {
        EightReasons x = Tape.of(WEB + "bears strong + grounds;");
        int[][] due = {{0, 2, 3, 1, 5}, {1, 2, 2, 1, 4}, {2, 3, 2, 1, 4}, {3, 4, 3, 1, 5}, {1, 4, 2, 1, 4}, {4, 3, 1, 1, 3}};
        for (int strand = 0; strand < due.length; strand++) {
            for (int what = 0; what < 5; what++) {
                CHECK.due("strand " + strand + " " + what, x.strand(strand, what), due[strand][what]);
            }
            CHECK.due("strand, what 5", x.strand(strand, 5), -1);
            CHECK.due("strand, what -1", x.strand(strand, -1), -1);
        }
        x.cut(0);
        x.tighten(0, 7);
        CHECK.due("cut, how strong", x.strand(0, 2), 7);
        CHECK.due("cut, tied", x.strand(0, 3), 0);
        CHECK.due("cut, bears", x.strand(0, 4), 0);
        CHECK.due("fewer grounds", x.strand(1, 4), 3);
        CHECK.due("no strand -1", x.strand(-1, 0), -1);
        CHECK.due("no strand 6", x.strand(6, 0), -1);
    }

    private static void cutAndTie() {
        EightReasons x = Tape.of(WEB);
        CHECK.due("tie what is tied", x.tie(0), -1);
        CHECK.due("cut 4", x.cut(4), 2);
        CHECK.due("cut 4 again", x.cut(4), -1);
        CHECK.due("cut 0", x.cut(0), 0);
        CHECK.due("tied", x.about(4), 0b101110);
        CHECK.due("tie 4", x.tie(4), 0);
        CHECK.due("tie 4 again", x.tie(4), -1);
        CHECK.due("tie 0", x.tie(0), 3);
        CHECK.due("acts", x.about(7), 4);
        for (int none : new int[] {-1, 6, 32, 33, Integer.MAX_VALUE, Integer.MIN_VALUE}) {
            CHECK.due("cut " + none, x.cut(none), -1);
            CHECK.due("tie " + none, x.tie(none), -1);
        }
        CHECK.due("acts still", x.about(7), 4);
    }

    private static void tighten() {
        EightReasons x = Tape.of(WEB);
        CHECK.due("as it is", x.tighten(0, 3), -1);
        CHECK.due("21", x.tighten(0, 21), -1);
        CHECK.due("-1", x.tighten(0, -1), -1);
        CHECK.due("no strand", x.tighten(6, 1), -1);
        CHECK.due("no strand -1", x.tighten(-1, 1), -1);
        CHECK.due("acts", x.about(7), 0);
        CHECK.due("to 0", x.tighten(0, 0), 3);
        CHECK.due("stands", x.stands(), 3);
        CHECK.due("it is tied still", x.strand(0, 3), 1);
        CHECK.due("to 20", x.tighten(0, 20), 0);
        CHECK.due("stands again", x.stands(), 31);
        x.cut(0);
        CHECK.due("a cut one", x.tighten(0, 5), 20);
        CHECK.due("acts then", x.about(7), 4);
    }

    private static void strikeAndProve() {
        EightReasons x = Tape.of(WEB);
        CHECK.due("prove what is proved", x.prove(1), -1);
        CHECK.due("strike a claim", x.strike(2), -1);
        CHECK.due("prove a claim", x.prove(2), -1);
        CHECK.due("strike g", x.strike(1), 2);
        CHECK.due("strike g again", x.strike(1), -1);
        CHECK.due("stands", x.stands(), 0b01101);
        CHECK.due("strike f", x.strike(0), 0);
        CHECK.due("struck", x.about(3), 3);
        CHECK.due("prove f", x.prove(0), 2);
        CHECK.due("prove g", x.prove(1), 3);
        for (int none : new int[] {-1, 5, 32, Integer.MAX_VALUE}) {
            CHECK.due("strike " + none, x.strike(none), -1);
            CHECK.due("prove " + none, x.prove(none), -1);
        }
        CHECK.due("acts", x.about(7), 4);
    }

    private static void days() {
        EightReasons x = Tape.of(FRAYING);
        CHECK.due("a day", x.day(), 32);
        CHECK.due("seed", x.about(6), 801);
        CHECK.due("day", x.about(5), 1);
        CHECK.due("frayed", x.strand(5, 2), 1);
        CHECK.due("not frayed", x.strand(0, 2), 3);
        // only two are drawn for: 801 leaves 808, 767: 8 is less than 30, 67 is not
        EightReasons y = Tape.of(FRAYING.replace("draw 7", "draw 801"));
        y.cut(0);
        y.tighten(1, 0);
        y.cut(3);
        y.cut(4);
        CHECK.due("a day with few", y.day(), 4);
        CHECK.due("seed", y.about(6), (808 * 137 + 71) % 1000);
        CHECK.due("a cut one does not fray", y.strand(0, 2), 3);
        CHECK.due("one that is not strong does not either", y.strand(1, 2), 0);
        EightReasons z = Tape.of("fact f;claim c needs 1;strand f c strong 2;fray 100;");
        CHECK.due("all fray", z.day(), 1);
        CHECK.due("all fray again", z.day(), 1);
        CHECK.due("till nothing is left", z.day(), 0);
        CHECK.due("nothing stands by it", z.stands(), 1);
        CHECK.due("day 3", z.about(5), 3);
        EightReasons none = Tape.of("fact f;claim c needs 1;strand f c strong 2;draw 5;");
        CHECK.due("none fray without fray", none.day(), 0);
        CHECK.due("the seed goes on", none.about(6), 756);
        manyDays();
    }

    /** Further than 512 calls: what they answer is free, but the document tells of day 999. */
    private static void manyDays() {
        EightReasons x = new EightReasons();
        for (int i = 0; i < 999; i++) {
            x.day();
        }
        CHECK.due("day 999", x.about(5), 999);
        CHECK.due("no day behind it", x.day(), -1);
        CHECK.due("still 999", x.about(5), 999);
    }

    private static void undoAndRedo() {
        EightReasons x = Tape.of(FRAYING);
        CHECK.is(!x.undo(), "nothing to undo");
        CHECK.is(!x.redo(), "nothing to redo");
        x.day();
        x.cut(0);
        x.strike(1);
        x.tighten(2, 9);
        CHECK.due("undoable", x.about(7), 4);
        CHECK.is(x.undo(), "undo tighten");
        CHECK.due("strong", x.strand(2, 2), 3);
        CHECK.is(x.undo(), "undo strike");
        CHECK.due("struck", x.about(3), 0);
        CHECK.is(x.undo(), "undo cut");
        CHECK.due("tied", x.about(4), 63);
        CHECK.is(x.undo(), "undo day");
        CHECK.due("day", x.about(5), 0);
        CHECK.due("seed", x.about(6), 7);
        CHECK.due("strong", x.strand(5, 2), 2);
        CHECK.is(!x.undo(), "no more");
        CHECK.due("redoable", x.about(8), 4);
        CHECK.is(x.redo(), "redo day");
        CHECK.due("seed again", x.about(6), 801);
        CHECK.due("frayed again", x.strand(5, 2), 1);
        CHECK.is(x.redo(), "redo cut");
        CHECK.due("tied again", x.about(4), 62);
        CHECK.due("cut of a cut one is no act", x.cut(0), -1);
        CHECK.due("redoable still", x.about(8), 2);
        x.tie(0);
        CHECK.due("an act", x.about(8), 0);
        CHECK.is(!x.redo(), "no redo behind an act");
        CHECK.due("undoable then", x.about(7), 3);
        keptActs();
    }

    private static void keptActs() {
        EightReasons x = Tape.of(WEB);
        for (int i = 1; i <= 45; i++) {
            x.tighten(0, i % 20 + 1);
        }
        CHECK.due("forty are kept", x.about(7), 40);
        int undone = 0;
        while (undone < 100 && x.undo()) {
            undone++;
        }
        CHECK.due("forty undone", undone, 40);
        CHECK.due("the oldest have gone", x.strand(0, 2), 6);
        CHECK.due("forty to redo", x.about(8), 40);
        int redone = 0;
        while (redone < 100 && x.redo()) {
            redone++;
        }
        CHECK.due("forty redone", redone, 40);
        CHECK.due("as it was", x.strand(0, 2), 6);
        x.undo();
        CHECK.due("before it", x.strand(0, 2), 5);
    }

    private static void boxes() {
        EightReasons x = Tape.of(FRAYING);
        CHECK.due("nothing kept", x.back(0), -1);
        x.day();
        x.cut(0);
        CHECK.due("image 2", x.image(2), 1);
        CHECK.due("acts stay", x.about(7), 2);
        x.day();
        x.strike(0);
        x.tie(0);
        x.tighten(0, 1);
        CHECK.due("image 0", x.image(0), 2);
        CHECK.due("image 3", x.image(3), -1);
        CHECK.due("image -1", x.image(-1), -1);
        x.undo();
        CHECK.due("back 1", x.back(1), -1);
        CHECK.due("back 3", x.back(3), -1);
        CHECK.due("back -1", x.back(-1), -1);
        CHECK.due("back 32", x.back(32), -1);
        CHECK.due("redo stays", x.about(8), 1);
        CHECK.due("back 2", x.back(2), 1);
        int[] due = {6, 6, 3, 0, 62, 1, 801, 0, 0};
        for (int what = 0; what < due.length; what++) {
            CHECK.due("as kept: about " + what, x.about(what), due[what]);
        }
        CHECK.due("strong as kept", x.strand(0, 2), 3);
        CHECK.is(!x.undo() && !x.redo(), "no acts are kept");
        x.tighten(0, 20);
        CHECK.due("the box keeps it", x.back(2), 1);
        CHECK.due("strong as kept again", x.strand(0, 2), 3);
        CHECK.due("back 0", x.back(0), 2);
        CHECK.due("struck as kept", x.about(3), 1);
        CHECK.due("strong of the other", x.strand(0, 2), 1);
        CHECK.due("kept anew", x.image(2), 2);
        CHECK.due("the new one", x.back(2), 2);
        CHECK.due("struck by the new one", x.about(3), 1);
    }

    private static void about() {
        EightReasons x = Tape.of(WEB + "bears (strong + 1) / 1;fray 12;draw 34;");
        x.strike(1);
        x.cut(2);
        x.day();
        x.undo();
        x.later(9);
        x.seen(2, true);
        x.seen(3, true);
        x.untell(0);
        x.proof(2);
        x.feed(0, 0, 0, 0, 0);
        int[] due = {5, 6, 3, 2, 0b111011, 0, 34, 2, 1, 2, 9, 20, 4, 12, 3 - 1};
        for (int what = 0; what < due.length; what++) {
            CHECK.due("about " + what, x.about(what), due[what]);
        }
        CHECK.due("about 15", x.about(15), -1);
        CHECK.due("about -1", x.about(-1), -1);
    }
}
