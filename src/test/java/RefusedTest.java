import java.util.function.Consumer;

/**
 * "NONE, doing nothing": each call that is refused leaves all as it was; and so does each question ("nothing is done"), whether it is
 * answered or not. All that an object tells is compared with what a like one tells that was not called.
 */
public final class RefusedTest {
    private static final Check CHECK = new Check("refused");

    /** a 0, b 1, c 2, d 3, e 4; g 5 and h 6 are HOLLOW. */
    private static final String TEXT = "fact a;fact b;claim c needs 3;claim d needs 2;claim e needs 9;strand a c strong 4;strand b c strong 3;"
            + "strand c d strong 3;strand d c strong 2;strand a d strong 1;bears strong + grounds - 1 - day / 9;fray 60;draw 123;"
            + "claim g needs 3;claim h needs 3;strand g h strong 9;strand h g strong 9;";

    private static final int[] NO_POINTS = {-1, 7, 10, 32, 33, 34, Integer.MAX_VALUE, Integer.MIN_VALUE};
    private static final int[] NO_STRANDS = {-1, 7, 12, 32, 33, 34, Integer.MAX_VALUE, Integer.MIN_VALUE};

    public static void main(String[] args) {
        theTape();
        refusedActs();
        refusedNumbers();
        refusedBoxes();
        refusedSeen();
        whenFull();
        whenThereIsNone();
        questions();
        questionsByClaim();
        questionsThatLay();
        questionsBehindQuestions();
        upTo512Calls();
        CHECK.close();
    }

    /** Something of everything: ACTS, some taken back, BOXES, what is SEEN and UNTOLD, what lies there, a TAPE with a FAULT. */
    private static EightReasons busy() {
        EightReasons x = Tape.of(TEXT);
        x.later(3);
        x.seen(2, true);
        x.seen(3, true);
        x.later(2);
        x.seen(4, false);
        x.untell(1);
        x.day();
        x.image(0);
        x.strike(1);
        x.cut(1);
        x.tighten(4, 7);
        x.image(2);
        x.day();
        x.tighten(3, 0);
        x.cut(4);
        x.undo();
        x.undo();
        x.proof(3);
        Tape.put(x, "fact a;fact a;");
        x.suit();
        return x;
    }

    private static final String BEFORE = Snapshot.of(busy());

    private static void leavesAll(String what, Consumer<EightReasons> call) {
        EightReasons x = busy();
        call.accept(x);
        CHECK.due(what + " leaves all", Snapshot.of(x), BEFORE);
    }

    private static void theTape() {
        CHECK.is(BEFORE.startsWith("fault 3 12, "), "there is a FAULT before");
        for (int n : new int[] {-1, 15, 1600, Integer.MAX_VALUE, Integer.MIN_VALUE}) {
            leavesAll("end(" + n + ")", x -> CHECK.due("end(" + n + ")", x.end(n), -1));
        }
        leavesAll("suit()", x -> CHECK.due("suit()", x.suit(), -1));
        leavesAll("end(14)", x -> CHECK.due("end(14)", x.end(14), 14));
        for (int what = -1; what <= 2; what++) {
            int asked = what;
            leavesAll("fault(" + what + ")", x -> x.fault(asked));
        }
        String full = filled();
        EightReasons x = full(new EightReasons());
        CHECK.due("feed of a full TAPE", x.feed(0x23232323, 0, 0, 0, 0), -1);
        CHECK.due("feed of a full TAPE leaves all", Snapshot.of(x), full);
    }

    private static EightReasons full(EightReasons x) {
        Tape.put(x, "fact a;".repeat(228) + "    ");
        x.suit();
        return x;
    }

    private static String filled() {
        return Snapshot.of(full(new EightReasons()));
    }

    private static void refusedActs() {
        leavesAll("cut of a CUT one", x -> CHECK.due("cut(1)", x.cut(1), -1));
        leavesAll("tie of a TIED one", x -> CHECK.due("tie(0)", x.tie(0), -1));
        leavesAll("strike of a STRUCK one", x -> CHECK.due("strike(1)", x.strike(1), -1));
        leavesAll("prove of a PROVED one", x -> CHECK.due("prove(0)", x.prove(0), -1));
        leavesAll("strike of a claim", x -> CHECK.due("strike(2)", x.strike(2), -1));
        leavesAll("prove of a claim", x -> CHECK.due("prove(2)", x.prove(2), -1));
        leavesAll("tighten to what it is", x -> CHECK.due("tighten(4)", x.tighten(4, x.strand(4, 2)), -1));
        for (int strong : new int[] {-1, 21, Integer.MAX_VALUE, Integer.MIN_VALUE}) {
            leavesAll("tighten to " + strong, x -> CHECK.due("tighten", x.tighten(0, strong), -1));
        }
        for (int none : NO_STRANDS) {
            leavesAll("cut(" + none + ")", x -> CHECK.due("cut", x.cut(none), -1));
            leavesAll("tie(" + none + ")", x -> CHECK.due("tie", x.tie(none), -1));
            leavesAll("tighten(" + none + ")", x -> CHECK.due("tighten", x.tighten(none, 9), -1));
        }
        for (int none : NO_POINTS) {
            leavesAll("strike(" + none + ")", x -> CHECK.due("strike", x.strike(none), -1));
            leavesAll("prove(" + none + ")", x -> CHECK.due("prove", x.prove(none), -1));
        }
    }

    private static void refusedNumbers() {
        for (int by : new int[] {-1, 1001, Integer.MAX_VALUE, Integer.MIN_VALUE}) {
            leavesAll("later(" + by + ")", x -> CHECK.due("later", x.later(by), -1));
        }
        leavesAll("later(0)", x -> CHECK.due("later(0)", x.later(0), 5));
    }

    private static void refusedBoxes() {
        for (int none : new int[] {-1, 3, 32, 34, Integer.MAX_VALUE, Integer.MIN_VALUE}) {
            leavesAll("image(" + none + ")", x -> CHECK.due("image", x.image(none), -1));
            leavesAll("back(" + none + ")", x -> CHECK.due("back", x.back(none), -1));
        }
        leavesAll("back to an empty BOX", x -> CHECK.due("back(1)", x.back(1), -1));
    }

    private static void refusedSeen() {
        for (int none : NO_POINTS) {
            leavesAll("seen(" + none + ")", x -> CHECK.due("seen", x.seen(none, true), -1));
        }
        leavesAll("seen of a fact", x -> CHECK.due("seen(0)", x.seen(0, false), -1));
        for (int none : new int[] {1, 3, 29, 30, -1, 32, Integer.MAX_VALUE, Integer.MIN_VALUE}) {
            leavesAll("untell(" + none + ")", x -> CHECK.is(!x.untell(none), "untell " + none));
        }
    }

    private static EightReasons withThirty() {
        EightReasons x = busy();
        for (int i = 3; i < 30; i++) {
            x.seen(2 + i % 2, true);
        }
        return x;
    }

    private static EightReasons atTheEndOfTime() {
        EightReasons x = busy();
        for (int i = 0; i < 99; i++) {
            x.later(1000);
        }
        x.later(500);
        return x;
    }

    private static void whenFull() {
        EightReasons x = withThirty();
        CHECK.due("the thirty-first", x.seen(2, false), -1);
        CHECK.due("it leaves all", Snapshot.of(x), Snapshot.of(withThirty()));
        EightReasons y = atTheEndOfTime();
        CHECK.due("beyond 100,000", y.later(496), -1);
        CHECK.due("beyond 100,000 leaves all", Snapshot.of(y), Snapshot.of(atTheEndOfTime()));
    }

    private static EightReasons undone() {
        EightReasons x = busy();
        while (x.about(7) > 0 && x.undo()) {
            continue;
        }
        return x;
    }

    private static EightReasons redone() {
        EightReasons x = busy();
        while (x.about(8) > 0 && x.redo()) {
            continue;
        }
        return x;
    }

    private static void whenThereIsNone() {
        EightReasons x = undone();
        CHECK.is(!x.undo(), "nothing to undo");
        CHECK.due("undo leaves all", Snapshot.of(x), Snapshot.of(undone()));
        EightReasons y = redone();
        CHECK.is(!y.redo(), "nothing to redo");
        CHECK.due("redo leaves all", Snapshot.of(y), Snapshot.of(redone()));
    }

    // "(By what is now; nothing is done; nothing frays, if not told otherwise ..)"
    private static void questions() {
        leavesAll("stands()", EightReasons::stands);
        leavesAll("tight()", EightReasons::tight);
        leavesAll("hollow()", EightReasons::hollow);
        leavesAll("spare()", EightReasons::spare);
        leavesAll("burdened()", EightReasons::burdened);
        leavesAll("gaps()", EightReasons::gaps);
        leavesAll("depth()", EightReasons::depth);
        leavesAll("weakest()", EightReasons::weakest);
        for (int number : new int[] {-1, 0, 1, 2, 3, 5, 20, 31, 60, 61, 99, 100}) {
            leavesAll("will " + number, x -> x.will(number, 1));
            leavesAll("will " + number + " without fraying", x -> x.will(number, 0));
            leavesAll("law " + number, x -> x.law(number));
            leavesAll("shock " + number, x -> x.shock(number));
            leavesAll("with " + number, x -> x.with(number));
            leavesAll("lies " + number, x -> x.lies(number));
            leavesAll("odds " + number, x -> x.odds(number, 0));
            leavesAll("ring " + number, x -> x.ring(number));
            leavesAll("keystone " + number, x -> x.keystone(number));
            leavesAll("firmest " + number, x -> x.firmest(number));
            leavesAll("ways " + number, x -> x.ways(number));
            leavesAll("ask " + number, x -> x.ask(number, 5));
            leavesAll("about " + number, x -> x.about(number));
        }
    }

    private static void questionsByClaim() {
        for (int number = -1; number <= 7; number++) {
            int n = number;
            leavesAll("holds " + n, x -> x.holds(n));
            leavesAll("brings " + n, x -> x.brings(n));
            leavesAll("rank " + n, x -> x.rank(n));
            leavesAll("pivots " + n, x -> x.pivots(n));
            leavesAll("lack " + n, x -> x.lack(n));
            leavesAll("fall " + n, x -> x.fall(n));
            leavesAll("roots " + n, x -> x.roots(n));
            leavesAll("worth " + n, x -> x.worth(n));
            leavesAll("best " + n, x -> x.best(n));
            for (int other = -1; other <= 5; other++) {
                int w = other;
                leavesAll("topple " + n + " " + w, x -> x.topple(n, w));
                leavesAll("prop " + n + " " + w, x -> x.prop(n, w));
                leavesAll("perils " + n + " " + w, x -> x.perils(n, w));
                leavesAll("mend " + n + " " + w, x -> x.mend(n, w));
                leavesAll("power " + n + " " + w, x -> x.power(n, w));
                leavesAll("path " + n + " " + w, x -> x.path(n, w));
                leavesAll("point " + n + " " + w, x -> x.point(n, w));
                leavesAll("strand " + n + " " + w, x -> x.strand(n, w));
                leavesAll("sure " + n + " " + w, x -> x.sure(n, w));
                leavesAll("moot " + n + " " + w, x -> x.moot(n, w, 1));
            }
        }
    }

    /** Questions of all kinds, by their number; -99 if there is none. */
    private static int ask(EightReasons x, int number) {
        return switch (number) {
            case 0 -> x.law(0);
            case 1 -> x.law(99);
            case 2 -> x.shock(20);
            case 3 -> x.worth(3);
            case 4 -> x.fall(2);
            case 5 -> x.will(60, 1);
            case 6 -> x.with(0);
            case 7 -> x.ways(5);
            case 8 -> x.ask(0, 5);
            case 9 -> x.keystone(1);
            case 10 -> x.holds(0);
            case 11 -> x.moot(2, 2, 1);
            case 12 -> x.counsels(2, 3);
            case 13 -> x.proof(3);
            case 14 -> x.ring(1);
            case 15 -> x.power(3, 2);
            case 16 -> x.stands();
            case 17 -> x.tight();
            case 18 -> x.hollow();
            case 19 -> x.topple(3, 1);
            case 20 -> x.prop(3, 1);
            case 21 -> x.pivots(3);
            case 22 -> x.lack(4);
            case 23 -> x.rank(3);
            case 24 -> x.spare();
            case 25 -> x.firmest(1);
            case 26 -> x.perils(3, 1);
            case 27 -> x.mend(4, 1);
            case 28 -> x.brings(0);
            case 29 -> x.best(3);
            case 30 -> x.depth();
            case 31 -> x.weakest();
            case 32 -> x.strand(0, 4);
            case 33 -> x.sure(0, 5);
            case 34 -> x.law(4);
            case 35 -> x.shock(1);
            case 36 -> x.will(3, 0);
            case 37 -> x.with(5);
            case 38 -> x.cut(0);
            case 39 -> x.tie(1);
            case 40 -> x.strike(0);
            case 41 -> x.prove(1);
            default -> -99;
        };
    }

    /** What is answered is the same, whatever was asked before. */
    private static void questionsBehindQuestions() {
        for (int question = 0; ask(busy(), question) != -99; question++) {
            int due = ask(busy(), question);
            for (int before = 0; before < 38; before++) {
                EightReasons x = busy();
                ask(x, before);
                CHECK.due("question " + question + " behind " + before, ask(x, question), due);
            }
        }
    }

    // "An object is used for at most 512 calls after it has been made"
    private static void upTo512Calls() {
        EightReasons x = busy();
        int used = 60;
        int worth = x.worth(3);
        int fall = x.fall(2);
        int law = x.law(4);
        for (; used + 6 < 512; used += 3) {
            x.worth(3);
            x.fall(2);
            x.law(4);
        }
        CHECK.due("worth at the end", x.worth(3), worth);
        CHECK.due("fall at the end", x.fall(2), fall);
        CHECK.due("law at the end", x.law(4), law);
        EightReasons y = busy();
        CHECK.due("stands at the end", x.stands(), y.stands());
        CHECK.due("what it BEARS at the end", x.strand(0, 4), y.strand(0, 4));
    }

    private static String withoutLying(String snapshot) {
        return snapshot.replaceFirst(", lies \\[[^]]*\\]", "");
    }

    /** proof and counsels lay something down, or nothing; all else stays. */
    private static void questionsThatLay() {
        CHECK.is(!BEFORE.contains("lies [ ]"), "something lies there before");
        for (int claim = -1; claim <= 5; claim++) {
            EightReasons x = busy();
            x.proof(claim);
            CHECK.due("proof of " + claim, withoutLying(Snapshot.of(x)), withoutLying(BEFORE));
            for (int other = -1; other <= 5; other++) {
                EightReasons y = busy();
                y.counsels(claim, other);
                CHECK.due("counsels of " + claim + " and " + other, withoutLying(Snapshot.of(y)), withoutLying(BEFORE));
            }
        }
    }
}
