/** Each sentence of "Terms", part 4, and of promises 51 to 56 that names a boundary, on both sides of it. */
public final class EdgesOfSeenTest {
    private static final Check CHECK = new Check("edges of what is seen");

    /** f 0, c 1, d 2: d hangs from c, c from f by STRAND 0; STRAND 2 is of no use. */
    private static final String ROW = "fact f;claim c needs 3;claim d needs 2;strand f c strong 4;strand c d strong 2;strand f d strong 1;";

    public static void main(String[] args) {
        noneOneOrTwo();
        ofTheSuitAsTold();
        thirtyAtMost();
        noClaim();
        untell();
        later();
        upTo100000();
        knownAt();
        untoldAtTheSameTime();
        sure();
        sureOfNone();
        ask();
        askOfLikeOnes();
        CHECK.close();
    }

    private static String fan(int strands) {
        StringBuilder text = new StringBuilder("fact a;fact b;claim c needs 1;claim d needs 1;claim e needs 1;claim f needs 1;claim g needs 1;"
                + "claim h needs 1;");
        for (int i = 0; i < strands; i++) {
            text.append("strand ").append((char) ('a' + i / 6)).append(' ').append((char) ('c' + i % 6)).append(" strong 1;");
        }
        return text.toString();
    }

    // "sets of none, one or two STRANDS"; "how many (that of none, too)"
    private static void noneOneOrTwo() {
        CHECK.due("an empty suit", new EightReasons().ways(0), 1);
        for (int n = 0; n <= 12; n++) {
            CHECK.due("of " + n, Tape.of(fan(n)).ways(0), 1 + n + n * (n - 1) / 2);
        }
        EightReasons x = Tape.of(fan(3));
        x.seen(2, false);
        x.seen(3, false);
        CHECK.due("two were CUT", x.ways(0), 1);
        x.seen(4, true);
        CHECK.due("just two", x.ways(0), 1);
        x.seen(4, false);
        CHECK.due("three can't be", x.ways(0), 0);
    }

    // "of the suit as it was told (nothing done)"
    private static void ofTheSuitAsTold() {
        EightReasons x = Tape.of(ROW + "bears strong * (day = 0);");
        x.seen(2, true);
        int ways = x.ways(0);
        CHECK.due("none, and STRAND 2", ways, 2);
        x.strike(0);
        x.cut(0);
        x.tighten(1, 0);
        x.day();
        CHECK.due("whatever is done", x.ways(0), ways);
        CHECK.due("it stays so", x.sure(0, 0), 0);
        CHECK.due("as to the next, too", x.ask(0, 0), 1);
        CHECK.due("seen counts for it as told", x.seen(1, true), 1);
        CHECK.due("all that counts is so", x.ways(0), 2);
    }

    // "SEEN, 30 at most"; "NONE, doing nothing, if .. there are 30"
    private static void thirtyAtMost() {
        EightReasons x = Tape.of(ROW);
        CHECK.due("none at first", x.about(9), 0);
        for (int i = 0; i < 30; i++) {
            CHECK.due("its number", x.seen(1 + i % 2, true), i);
            CHECK.due("how many", x.about(9), i + 1);
        }
        CHECK.due("the thirty-first", x.seen(1, true), -1);
        CHECK.due("one that would leave no way", x.seen(1, false), -1);
        CHECK.due("thirty", x.about(9), 30);
        CHECK.due("it does not count", x.ways(0), 2);
        CHECK.is(!x.untell(30), "it has no number");
        CHECK.is(x.untell(29) && x.untell(0), "the last and the first");
        CHECK.due("there are thirty still", x.seen(1, true), -1);
        Tape.suit(x, ROW);
        CHECK.due("none behind a suit", x.about(9), 0);
        CHECK.due("thirty may come again", x.seen(1, true), 0);
    }

    // "NONE, doing nothing, if it is no claim"
    private static void noClaim() {
        EightReasons x = Tape.of(ROW);
        for (int none : new int[] {-1, 0, 3, 10, 31, 32, 33, 34, Integer.MAX_VALUE, Integer.MIN_VALUE}) {
            CHECK.due("seen " + none, x.seen(none, true), -1);
            CHECK.due("seen not " + none, x.seen(none, false), -1);
        }
        CHECK.due("none SEEN", x.about(9), 0);
        CHECK.due("the first claim", x.seen(1, true), 0);
        CHECK.due("the last claim", x.seen(2, false), 1);
        EightReasons first = Tape.of("claim c needs 1;fact f;");
        CHECK.due("a claim that is POINT 0", first.seen(0, false), 0);
        CHECK.due("a fact that is POINT 1", first.seen(1, false), -1);
    }

    // "It is UNTOLD: true; false if it is so already, or there is none such"
    private static void untell() {
        EightReasons x = Tape.of(ROW);
        CHECK.is(!x.untell(0), "there is none");
        x.seen(1, true);
        x.seen(1, false);
        CHECK.due("no way", x.ways(0), 0);
        for (int none : new int[] {-1, 2, 29, 30, 31, 32, Integer.MAX_VALUE, Integer.MIN_VALUE}) {
            CHECK.is(!x.untell(none), "untell " + none);
        }
        CHECK.due("no way still", x.ways(0), 0);
        CHECK.is(x.untell(1), "untell 1");
        CHECK.is(!x.untell(1), "it is so already");
        CHECK.due("ways where c STOOD", x.ways(0), 4);
        x.later(5);
        CHECK.is(!x.untell(1), "later, too");
        CHECK.due("as before at 0", x.ways(0), 4);
        CHECK.is(x.untell(0), "untell 0 at 5");
        CHECK.due("at 4", x.ways(4), 4);
        CHECK.due("at 5", x.ways(5), 7);
        CHECK.due("both are SEEN still", x.about(9), 2);
    }

    // "So much later (0 .. 1000): the TIME; NONE, doing nothing, for another number"
    private static void later() {
        EightReasons x = new EightReasons();
        CHECK.due("0 at first", x.about(10), 0);
        CHECK.due("by 0", x.later(0), 0);
        CHECK.due("by 1", x.later(1), 1);
        CHECK.due("by 1000", x.later(1000), 1001);
        for (int by : new int[] {-1, 1001, 1002, 100000, Integer.MAX_VALUE, Integer.MIN_VALUE}) {
            CHECK.due("by " + by, x.later(by), -1);
            CHECK.due("the TIME stays", x.about(10), 1001);
        }
        CHECK.due("by 999", x.later(999), 2000);
    }

    // "or if it would be above 100,000"
    private static void upTo100000() {
        EightReasons x = Tape.of(ROW);
        for (int i = 1; i <= 99; i++) {
            x.later(1000);
        }
        CHECK.due("99,500", x.later(500), 99500);
        CHECK.due("100,500 can't be", x.later(1000), -1);
        CHECK.due("100,001 can't be", x.later(501), -1);
        CHECK.due("99,500 still", x.about(10), 99500);
        CHECK.due("100,000", x.later(500), 100000);
        CHECK.due("100,001 can't be, either", x.later(1), -1);
        CHECK.due("the same can", x.later(0), 100000);
        CHECK.due("told at the last TIME", x.seen(1, false), 0);
        CHECK.due("at 99,999", x.ways(99999), 7);
        CHECK.due("at 100,000", x.ways(100000), 3);
        CHECK.due("at 100,001", x.ways(100001), 3);
    }

    // "As known at k that counts that was TOLD at k or before, not UNTOLD at k or before"
    private static void knownAt() {
        EightReasons x = Tape.of(ROW);
        x.later(10);
        x.seen(1, false);
        x.later(10);
        x.untell(0);
        x.seen(2, true);
        int[][] due = {{Integer.MIN_VALUE, 7}, {-1, 7}, {0, 7}, {9, 7}, {10, 3}, {11, 3}, {19, 3}, {20, 2}, {21, 2}, {Integer.MAX_VALUE, 2}};
        for (int[] row : due) {
            CHECK.due("ways at " + row[0], x.ways(row[0]), row[1]);
        }
        CHECK.due("sure of 0 at 9", x.sure(0, 9), -2);
        CHECK.due("sure of 0 at 10", x.sure(0, 10), 1);
        CHECK.due("sure of 0 at 19", x.sure(0, 19), 1);
        CHECK.due("sure of 0 at 20", x.sure(0, 20), 0);
        CHECK.due("left at 9", x.ask(1, 9), 4);
        CHECK.due("left at 10", x.ask(1, 10), 3);
        CHECK.due("left at 20", x.ask(1, 20), 2);
    }

    // "UNTOLD at a later one or the same"
    private static void untoldAtTheSameTime() {
        EightReasons x = Tape.of(ROW);
        x.seen(1, false);
        CHECK.due("it counts", x.ways(0), 3);
        x.untell(0);
        CHECK.due("it never counted", x.ways(0), 7);
        CHECK.due("nor before", x.ways(-1), 7);
        CHECK.due("nor later", x.ways(1), 7);
        CHECK.due("told once more", x.seen(1, false), 1);
        CHECK.due("that counts", x.ways(0), 3);
    }

    // "1, 0; -2 if it is not the same in all; NONE if there are no WAYS, or there is none such"
    private static void sure() {
        EightReasons x = Tape.of(ROW);
        for (int strand = 0; strand < 3; strand++) {
            CHECK.due("not the same in all", x.sure(strand, 0), -2);
        }
        for (int none : new int[] {-1, 3, 12, 31, 32, 33, Integer.MAX_VALUE, Integer.MIN_VALUE}) {
            CHECK.due("sure of " + none, x.sure(none, 0), -1);
        }
        x.seen(1, false);
        CHECK.due("it was CUT", x.sure(0, 0), 1);
        CHECK.due("not the same", x.sure(1, 0), -2);
        EightReasons y = Tape.of(ROW);
        y.seen(2, true);
        CHECK.due("it was not", y.sure(0, 0), 0);
        CHECK.due("it was not, either", y.sure(1, 0), 0);
        CHECK.due("not known", y.sure(2, 0), -2);
        y.seen(1, false);
        for (int strand = -1; strand <= 3; strand++) {
            CHECK.due("no WAYS", y.sure(strand, 0), -1);
        }
    }

    private static void sureOfNone() {
        CHECK.due("no STRANDS", Tape.of("claim c needs 1;").sure(0, 0), -1);
        EightReasons one = Tape.of("fact f;claim c needs 1;strand f c strong 1;");
        CHECK.due("one STRAND", one.sure(0, 0), -2);
        one.seen(1, true);
        CHECK.due("not CUT", one.sure(0, 0), 0);
        one.untell(0);
        one.seen(1, false);
        CHECK.due("CUT", one.sure(0, 0), 1);
    }

    // "NONE if there are no WAYS, no claims"
    private static void ask() {
        CHECK.due("no claims", Tape.of("fact f;").ask(0, 0), -1);
        CHECK.due("no claims: how many", Tape.of("fact f;").ask(1, 0), -1);
        CHECK.due("nothing at all", new EightReasons().ask(0, 0), -1);
        EightReasons x = Tape.of("fact f;claim c needs 1;");
        CHECK.due("one claim", x.ask(0, 0), 1);
        CHECK.due("one way", x.ask(1, 0), 1);
        x.seen(1, true);
        CHECK.due("no WAYS", x.ask(0, 0), -1);
        CHECK.due("no WAYS: how many", x.ask(1, 0), -1);
        CHECK.due("before it was told", x.ask(0, -1), 1);
    }

    // "would leave the fewest of these at the most; of like ones the first"
    private static void askOfLikeOnes() {
        EightReasons x = Tape.of("fact f;claim c needs 1;claim d needs 1;strand f c strong 1;strand f d strong 1;");
        CHECK.due("two of four each: the first", x.ask(0, 0), 1);
        CHECK.due("two are left", x.ask(1, 0), 2);
        x.seen(1, true);
        CHECK.due("c is known: d", x.ask(0, 0), 2);
        CHECK.due("one is left", x.ask(1, 0), 1);
        x.seen(2, true);
        CHECK.due("all is known: the first", x.ask(0, 0), 1);
        CHECK.due("one is left still", x.ask(1, 0), 1);
        // of seven, c STOOD in four, d in two: the other five would be left
        EightReasons y = Tape.of(ROW);
        CHECK.due("c in four of seven", y.ask(0, 0), 1);
        CHECK.due("four at the most", y.ask(1, 0), 4);
    }
}
