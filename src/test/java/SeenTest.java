/** Promises 51 to 56: what is SEEN, in two times. */
public final class SeenTest {
    private static final Check CHECK = new Check("seen");

    public static void main(String[] args) {
        waysOfAll();
        askFirst();
        twoTimes();
        asTold();
        limits();
        without();
        CHECK.close();
    }

    private static void waysOfAll() {
        EightReasons x = Tape.of(Tape.WEB);
        CHECK.due("none, six, fifteen", x.ways(0), 22);
        CHECK.due("seen c", x.seen(4, true), 0);
        CHECK.due("ways", x.ways(0), 4);
        int[] due = {0, -2, 0, 0, 0, -2};
        for (int strand = 0; strand < due.length; strand++) {
            CHECK.due("sure " + strand, x.sure(strand, 0), due[strand]);
        }
        CHECK.due("sure 6", x.sure(6, 0), -1);
        CHECK.due("sure -1", x.sure(-1, 0), -1);
        EightReasons y = Tape.of(Tape.WEB);
        y.seen(2, false);
        CHECK.due("a down: 0 alone or with another", y.ways(0), 6);
        CHECK.due("sure that 0 was cut", y.sure(0, 0), 1);
        CHECK.due("not sure of 1", y.sure(1, 0), -2);
        CHECK.due("seen b up", y.seen(3, true), 1);
        CHECK.due("no ways", y.ways(0), 0);
        CHECK.due("sure without ways", y.sure(0, 0), -1);
        CHECK.due("ask without ways", y.ask(0, 0), -1);
        CHECK.due("ask without ways: left", y.ask(1, 0), -1);
    }

    private static void askFirst() {
        EightReasons x = Tape.of(Tape.WEB);
        CHECK.due("ask b", x.ask(0, 0), 3);
        CHECK.due("half are left", x.ask(1, 0), 11);
        CHECK.due("what 2", x.ask(2, 0), -1);
        CHECK.due("what -1", x.ask(-1, 0), -1);
        x.seen(3, true);
        CHECK.due("ways with b up", x.ways(0), 11);
        CHECK.due("ask c then", x.ask(0, 0), 4);
        CHECK.due("7 with c down", x.ask(1, 0), 7);
        x.seen(4, true);
        CHECK.due("all the same: the first", x.ask(0, 0), 2);
        CHECK.due("all are left", x.ask(1, 0), 4);
    }

    private static void twoTimes() {
        EightReasons x = Tape.of(Tape.WEB);
        CHECK.due("later", x.later(10), 10);
        CHECK.due("told at 10", x.seen(4, true), 0);
        CHECK.due("later again", x.later(5), 15);
        CHECK.due("told at 15", x.seen(2, false), 1);
        CHECK.due("at 9", x.ways(9), 22);
        CHECK.due("at 10", x.ways(10), 4);
        CHECK.due("at 14", x.ways(14), 4);
        CHECK.due("at 15", x.ways(15), 0);
        x.later(5);
        CHECK.is(x.untell(0), "untold at 20");
        CHECK.is(!x.untell(0), "untold already");
        CHECK.due("at 19", x.ways(19), 0);
        CHECK.due("at 20", x.ways(20), 6);
        CHECK.due("at 1000", x.ways(1000), 6);
        CHECK.due("as known at 10 still", x.ways(10), 4);
        CHECK.due("sure as known at 20", x.sure(0, 20), 1);
        CHECK.due("sure as known at 10", x.sure(0, 10), 0);
        CHECK.due("ask as known at -1", x.ask(0, -1), 3);
        CHECK.due("ways as known at the least", x.ways(Integer.MIN_VALUE), 22);
        CHECK.due("ways as known at the most", x.ways(Integer.MAX_VALUE), 6);
        CHECK.due("told at 20", x.seen(2, true), 2);
        CHECK.is(x.untell(2), "untold at the same time");
        CHECK.due("it never counts", x.ways(20), 6);
        CHECK.is(!x.untell(3), "none such");
        CHECK.is(!x.untell(-1), "none such below");
        CHECK.due("three are seen", x.about(9), 3);
        CHECK.due("the time", x.about(10), 20);
    }

    /** Of the suit as told, whatever has been done since. */
    private static void asTold() {
        EightReasons x = Tape.of(Tape.WEB + "bears strong - day;");
        x.seen(4, true);
        x.cut(0);
        x.strike(1);
        x.day();
        x.day();
        x.tighten(3, 1);
        CHECK.due("ways", x.ways(0), 4);
        CHECK.due("sure", x.sure(0, 0), 0);
        CHECK.due("what is now is as before", x.stands(), 1);
    }

    private static void limits() {
        EightReasons x = Tape.of(Tape.WEB);
        for (int i = 0; i < 30; i++) {
            CHECK.due("seen " + i, x.seen(2, true), i);
        }
        CHECK.due("one too many", x.seen(2, true), -1);
        x.untell(3);
        CHECK.due("untold ones count", x.seen(2, true), -1);
        CHECK.due("thirty", x.about(9), 30);
        CHECK.is(x.untell(29), "the last one");
        CHECK.due("later 0", x.later(0), 0);
        CHECK.due("later 1000", x.later(1000), 1000);
        CHECK.due("later 1001", x.later(1001), -1);
        CHECK.due("later -1", x.later(-1), -1);
        for (int i = 2; i <= 100; i++) {
            x.later(1000);
        }
        CHECK.due("the last time", x.about(10), 100000);
        CHECK.due("no later", x.later(1), -1);
        CHECK.due("no later by nothing", x.later(0), 100000);
        Tape.suit(x, "claim a needs 1;");
        CHECK.due("the time stays", x.about(10), 100000);
        CHECK.due("nothing is seen", x.about(9), 0);
        CHECK.due("its first one", x.seen(0, false), 0);
        CHECK.due("not known before", x.ways(99999), 1);
        CHECK.due("known then", x.ways(100000), 1);
        x.seen(0, true);
        CHECK.due("which can't be", x.ways(100000), 0);
    }

    private static void without() {
        EightReasons x = Tape.of("fact f;");
        CHECK.due("ways without strands", x.ways(0), 1);
        CHECK.due("ask without claims", x.ask(0, 0), -1);
        CHECK.due("ask without claims: left", x.ask(1, 0), -1);
        CHECK.due("sure without strands", x.sure(0, 0), -1);
        CHECK.due("a fact is not seen", x.seen(0, true), -1);
        StringBuilder text = new StringBuilder("fact a;fact b;fact c;claim d needs 1;claim e needs 1;claim f needs 1;claim g needs 1;");
        for (int i = 0; i < 12; i++) {
            text.append("strand ").append((char) ('a' + i % 3)).append(' ').append((char) ('d' + i / 3)).append(" strong 1;");
        }
        EightReasons y = Tape.of(text.toString());
        CHECK.due("ways of twelve", y.ways(0), 79);
        CHECK.due("two cuts bring none down", y.ask(1, 0), 79);
    }
}
