/** Promises 1 to 5: the TAPE, the SUIT's text, its FAULTS; and what comes of bears. */
public final class TextTest {
    private static final Check CHECK = new Check("text");

    private static final String TEN = "fact a;fact b;fact c;fact d;fact e;claim f needs 1;claim g needs 2;claim h needs 3;"
            + "claim i needs 4;claim j needs 5;";

    public static void main(String[] args) {
        newObject();
        tape();
        bytesBehindTheEnd();
        goodTexts();
        tokens();
        places();
        names();
        numbers();
        sorts();
        units();
        nesting();
        whatStays();
        values();
        given();
        CHECK.close();
    }

    private static void newObject() {
        EightReasons x = new EightReasons();
        int[] due = {0, 0, 0, 0, 0, 0, 0, 0, 0, 0, 0, 0, 0, 0, 0};
        for (int what = 0; what < due.length; what++) {
            CHECK.due("new: about " + what, x.about(what), due[what]);
        }
        CHECK.due("new: fault 0", x.fault(0), 0);
        CHECK.due("new: fault 1", x.fault(1), -1);
        CHECK.due("new: suit of nothing", x.suit(), 0);
        CHECK.is(!x.undo() && !x.redo() && !x.untell(0), "new: nothing to take back");
    }

    private static void tape() {
        EightReasons x = new EightReasons();
        CHECK.due("end of nothing", x.end(1), -1);
        CHECK.due("end 0", x.end(0), 0);
        CHECK.due("end -1", x.end(-1), -1);
        for (int i = 1; i <= 80; i++) {
            CHECK.due("feed " + i, x.feed(0x20202020, 0x20202020, 0x0a0a0a0a, 0x20202020, 0x20202020), 20 * i);
        }
        CHECK.due("feed beyond", x.feed(0, 0, 0, 0, 0), -1);
        CHECK.due("bytes", x.about(11), 1600);
        CHECK.due("end within", x.end(1581), 1581);
        CHECK.due("feed of one too many", x.feed(0, 0, 0, 0, 0), -1);
        CHECK.due("end beyond", x.end(1582), -1);
        CHECK.due("end", x.end(1580), 1580);
        CHECK.due("feed of the last", x.feed(0x20202020, 0x20202020, 0x20202020, 0x20202020, 0x20202020), 1600);
        CHECK.due("suit of blanks", x.suit(), 0);
        CHECK.due("bytes behind it", x.about(11), 0);
        // "fact" "\n a;" and then a byte of 0xff as the sixteenth
        CHECK.due("feed again", x.feed(0x66616374, 0x0a20613b, 0x20202020, 0x202020ff, 0x20202020), 20);
        CHECK.due("a byte that is no sign", x.suit(), -1);
        CHECK.due("which", x.fault(0), 1);
        CHECK.due("where", x.fault(1), 15);
        CHECK.due("end before it", x.end(15), 15);
        CHECK.due("suit without it", x.suit(), 1);
        CHECK.due("fault 2", x.fault(2), -1);
        CHECK.due("fault -1", x.fault(-1), -1);
    }

    /** What end() took off the TAPE lies there still, perhaps, but is not read. */
    private static void bytesBehindTheEnd() {
        cutOff("fact abcdefghi", 13, 2, 13);
        cutOff("bears 12345", 10, 2, 10);
        cutOff("claim a needs 5x", 15, 2, 15);
        cutOff("fact a;  fact", 8, 0, -1);
        cutOff("fact a;fact facts", 16, 2, 12);
    }

    private static void cutOff(String text, int n, int fault, int place) {
        EightReasons x = new EightReasons();
        Tape.put(x, text);
        x.end(n);
        x.suit();
        CHECK.due(text + " up to " + n + ": fault", x.fault(0), fault);
        CHECK.due(text + " up to " + n + ": place", x.fault(1), place);
    }

    private static void good(String text, int points) {
        Tape.good(CHECK, text, points);
    }

    private static void bad(String text, int fault, int place) {
        Tape.bad(CHECK, text, fault, place);
    }

    private static void goodTexts() {
        good("", 0);
        good(" \n ", 0);
        good("fact a;", 1);
        good("fact\na\n;", 1);
        good("fact a;claim b needs5;strand a b strong3;", 2);
        good("fact abcdefgh;fact abcdefgi;", 2);
        good("fact facts;claim claims needs 1;strand facts claims strong 1;", 2);
        good("claim a needs 1;claim b needs 99;strand a b strong 20;strand b a strong 1;", 2);
        good("claim a needs 0099;", 1);
        good("fray 0;draw 0;", 0);
        good("draw 999;fray 100;bears 0;", 0);
        good("bears 9999+0000;", 0);
        good("bears(strong)or not day and grounds<burden;", 0);
        good(TEN, 10);
    }

    private static void tokens() {
        bad("#", 1, 0);
        bad("Fact a;", 1, 0);
        bad("fact A;", 1, 5);
        bad("fact\ta;", 1, 4);
        bad("fact a;\r", 1, 7);
        bad("fact abcdefghi;", 1, 5);
        bad("claim a needs 12345;", 1, 14);
        bad("claim a needs 00001;", 1, 14);
        bad("claim a needs 5x;", 1, 14);
        bad("bears 1or 2;", 1, 6);
        bad("bears 1 or2x;", 1, 10);
        bad("fact a;fact a,", 3, 12);
        bad("fact a,fact a", 1, 6);
        bad("fact \u00e9;", 1, 5);
        bad("12345", 1, 0);
    }

    private static void places() {
        bad("fact", 2, 4);
        bad("fact  ", 2, 6);
        bad("fact a", 2, 6);
        bad("fact a \n", 2, 8);
        bad(";", 2, 0);
        bad("a", 2, 0);
        bad("fact a;;", 2, 7);
        bad("fact a b;", 2, 7);
        bad("fact a1;", 2, 6);
        bad("fact 1;", 2, 5);
        bad("fact claim", 2, 5);
        for (String word : "fact claim needs strand strong bears fray draw or and not grounds burden day".split(" ")) {
            bad("fact " + word + ";", 2, 5);
            bad("claim " + word + " needs 1;", 2, 6);
        }
        bad("or", 2, 0);
        bad("claim a;", 2, 7);
        bad("claim a needs;", 2, 13);
        bad("claim a needs b;", 2, 14);
        bad("claim a needs 1 2;", 2, 16);
        bad("claim a strong 1;", 2, 8);
        bad("strand;", 2, 6);
        bad("fact a;strand a;", 2, 15);
        bad("fact a;strand a 1 strong 1;", 2, 16);
        bad("fact a;strand a strong 1;", 2, 16);
        bad("fact a;claim b needs 1;strand a b needs 1;", 2, 34);
        bad("fact a;claim b needs 1;strand a b strong;", 2, 40);
        bad("bears ;", 2, 6);
        bad("bears 1 +;", 2, 9);
        bad("bears (1;", 2, 8);
        bad("bears 1);", 2, 7);
        bad("bears 1<2<3;", 2, 9);
        bad("bears 1 + not 2;", 2, 10);
        bad("bears 1 < not 2;", 2, 10);
        bad("bears - 1;", 2, 6);
        bad("bears fact;", 2, 6);
        bad("bears a;", 2, 6);
        bad("bears 1 2;", 2, 8);
        bad("bears not;", 2, 9);
        bad("bears 1 or;", 2, 10);
        bad("bears ();", 2, 7);
        bad("fray ;", 2, 5);
        bad("fray a;", 2, 5);
        bad("draw;", 2, 4);
    }

    private static void names() {
        bad("fact a;fact a;", 3, 12);
        bad("fact a;claim a needs 1;", 3, 13);
        bad("claim a needs 1;fact a;", 3, 21);
        bad("strand a b strong 1;", 5, 7);
        bad("strand a a strong 1;", 5, 7);
        bad("fact a;strand a b strong 1;claim b needs 1;", 5, 16);
        bad("claim b needs 1;strand b b strong 1;", 3, 25);
        bad("fact a;fact b;strand a b strong 1;", 3, 23);
        bad("claim a needs 1;fact b;strand a b strong 1;", 3, 32);
        bad("fact a;claim b needs 1;strand a b strong 1;strand a b strong 2;", 3, 52);
        bad("claim a needs 1;claim b needs 1;strand a b strong 1;strand b a strong 1;strand b a strong 1;", 3, 81);
        bad("fact a;claim b needs 1;strand b a strong 1;", 3, 32);
    }

    private static void numbers() {
        bad("claim a needs 0;", 4, 14);
        bad("claim a needs 100;", 4, 14);
        bad("claim a needs 9999", 4, 14);
        bad("fact a;claim b needs 1;strand a b strong 0;", 4, 41);
        bad("fact a;claim b needs 1;strand a b strong 21;", 4, 41);
        good("fact a;claim b needs 1;strand a b strong 20;", 2);
        bad("fray 101;", 4, 5);
        bad("draw 1000;", 4, 5);
    }

    private static void sorts() {
        bad(TEN + "fact k;", 2, TEN.length());
        bad(TEN + "claim k needs 1;", 2, TEN.length());
        bad(TEN + " fact a;", 2, TEN.length() + 1);
        bad(TEN + "fact", 2, TEN.length());
        StringBuilder strands = new StringBuilder(TEN);
        for (int i = 0; i < 12; i++) {
            strands.append("strand ").append((char) ('a' + i % 5)).append(' ').append((char) ('f' + i / 3)).append(" strong 1;");
        }
        good(strands.toString(), 10);
        bad(strands + "strand e j strong 1;", 2, strands.length());
        bad(strands + "strand x y strong 1;", 2, strands.length());
        bad("bears 1;bears 1;", 2, 8);
        bad("fray 1;fray 1;", 2, 7);
        bad("draw 1;fact a;draw 1;", 2, 14);
        bad("draw 1;draw", 2, 7);
    }

    private static String sum(int units) {
        return "1" + "+1".repeat(units - 1);
    }

    private static void units() {
        good("bears " + sum(30) + ";", 0);
        bad("bears " + sum(31) + ";", 2, 6 + 60);
        bad("bears " + sum(30) + "+#;", 1, 6 + 60);
        bad("bears " + sum(30) + "+;", 2, 6 + 60);
        good("bears (" + sum(29) + ");", 0);
        bad("bears (" + sum(30) + ");", 2, 7 + 58);
        bad("bears " + sum(30) + "*(1);", 2, 6 + 60);
        good("bears " + sum(28) + "+(1);", 0);
        bad("bears " + sum(29) + "+(1);", 2, 6 + 59);
        CHECK.due("units", Tape.of("bears (1 + strong) * 2;").about(12), 4);
        CHECK.due("units within", Tape.of("bears not ((day));").about(12), 3);
        CHECK.due("thirty", Tape.of("bears " + sum(30) + ";").about(12), 30);
        String nots = "not ".repeat(7);
        EightReasons x = Tape.of("fact f;claim c needs 1;strand f c strong 1;bears " + nots + "1" + (" and " + nots + "0").repeat(29) + ";");
        CHECK.due("thirty units with seven nots each", x.strand(0, 4), 0);
        EightReasons y = Tape.of("fact f;claim c needs 1;strand f c strong 1;bears " + nots + "0" + (" and " + nots + "0").repeat(29) + ";");
        CHECK.due("thirty units with seven nots each, all of 0", y.strand(0, 4), 1);
    }

    private static void nesting() {
        good("bears (((((((1)))))));", 0);
        bad("bears ((((((((1))))))));", 2, 13);
        good("bears " + "not ".repeat(7) + "1;", 0);
        bad("bears " + "not ".repeat(8) + "1;", 2, 6 + 28);
        good("bears not (not (not (not 1)));", 0);
        bad("bears not (not (not (not (1))));", 2, 25);
        bad("bears not (not (not (not not 1)));", 2, 25);
        good("bears (1) + (((((((1)))))));", 0);
        good("bears ((((((1)))))) and not 1;", 0);
    }

    /** A FAULT leaves all as it was; a SUIT makes all new but the TIME. */
    private static void whatStays() {
        EightReasons x = Tape.of("fact f;claim c needs 2;strand f c strong 2;draw 5;fray 100;");
        x.later(7);
        x.seen(1, true);
        x.day();
        x.cut(0);
        x.undo();
        x.image(1);
        x.proof(1);
        x.tie(0);
        Tape.put(x, "fact g;fact h;fact i;oops");
        CHECK.due("a fault", x.suit(), -1);
        int[] due = {2, 1, 1, 0, 1, 1, (5 * 137 + 71) % 1000, 1, 1, 1, 7, 25, 0, 100, 0};
        for (int what = 0; what < due.length; what++) {
            CHECK.due("behind a fault: about " + what, x.about(what), due[what]);
        }
        CHECK.due("the box", x.back(1), 1);
        x.cut(0);
        x.tie(0);
        x.tighten(0, 9);
        CHECK.due("proof", x.proof(1), 2);
        CHECK.due("the text without what was wrong", x.end(21), 21);
        CHECK.due("a suit", x.suit(), 3);
        int[] dueThen = {3, 0, 7, 0, 0, 0, 0, 0, 0, 0, 7, 0, 0, 0, 0};
        for (int what = 0; what < dueThen.length; what++) {
            CHECK.due("behind a suit: about " + what, x.about(what), dueThen[what]);
        }
        CHECK.due("no box", x.back(1), -1);
        CHECK.due("no fault", x.fault(0), 0);
        CHECK.due("no place", x.fault(1), -1);
        CHECK.is(!x.undo() && !x.untell(0), "nothing is kept");
        CHECK.due("nothing lies there", x.lies(0), -1);
    }

    private static void value(String formula, int due) {
        EightReasons x = Tape.of("fact f;claim c needs 3;strand f c strong 4;bears " + formula + ";");
        CHECK.due("bears " + formula, x.strand(0, 4), due);
    }

    private static void values() {
        value("1+2*3", 7);
        value("(1+2)*3", 9);
        value("7/2", 3);
        value("7%3", 1);
        value("5-7", 0);
        value("(0-7)/2+10", 7);
        value("(0-7)%4+10", 7);
        value("7/(0-2)+10", 7);
        value("9/0+5", 5);
        value("9%0+5", 5);
        value("10-4-3", 3);
        value("100/10/2", 5);
        value("7%4*2", 6);
        value("1<2", 1);
        value("2<2", 0);
        value("2>1", 1);
        value("2>2", 0);
        value("2=2", 1);
        value("2=3", 0);
        value("1+1<1+2", 1);
        value("not 0", 1);
        value("not 5", 0);
        value("not not 5", 1);
        value("not 1=2", 1);
        value("3 and 4", 1);
        value("3 and 0", 0);
        value("0 or 7", 1);
        value("0 or 0", 0);
        value("2 or 0 and 0", 1);
        value("(2 or 0) and 0", 0);
        value("not 0 and 0", 0);
        value("(5)", 5);
        value("999", 999);
        value("1000", 999);
        value("9999", 999);
        value("9999*9999*9999%1000", 9999 * 9999 * 9999 % 1000 < 0 ? 0 : 9999 * 9999 * 9999 % 1000);
        value("9999*9999*22%1000+1000", Math.max(0, Math.min(999, 9999 * 9999 * 22 % 1000 + 1000)));
        // 65536 * 32768 wraps to the least int, which stays so when cut by -1
        value("(4096*16*4096*8)/(0-1)+5<0", 1);
        value("(4096*16*4096*8)%(0-1)+5", 5);
        value("(4096*16*4096*8)-1>0", 1);
    }

    private static void given() {
        String text = "fact f;fact g;claim a needs 7;claim b needs 9;strand f a strong 4;strand f b strong 5;strand g a strong 6;";
        value("strong", 4);
        value("needs", 3);
        value("day", 0);
        String[] words = {"strong", "grounds", "burden", "needs", "day"};
        int[][] due = {{4, 5, 6}, {2, 1, 2}, {2, 2, 1}, {7, 9, 7}, {0, 0, 0}};
        int[][] dueThen = {{0, 5, 6}, {0, 1, 1}, {0, 1, 1}, {0, 9, 7}, {0, 1, 1}};
        for (int w = 0; w < words.length; w++) {
            EightReasons x = Tape.of(text + "bears " + words[w] + ";");
            for (int s = 0; s < 3; s++) {
                CHECK.due(words[w] + " of " + s, x.strand(s, 4), due[w][s]);
            }
            x.cut(0);
            x.day();
            for (int s = 0; s < 3; s++) {
                CHECK.due(words[w] + " then of " + s, x.strand(s, 4), dueThen[w][s]);
            }
            x.tie(0);
            x.tighten(0, 0);
            CHECK.due(words[w] + " of what is not strong", x.strand(0, 4), 0);
            CHECK.due(words[w] + " beside it", x.strand(1, 4), new int[] {5, 1, 2, 9, 1}[w]);
        }
        EightReasons plain = Tape.of(text);
        CHECK.due("no bears: strong", plain.strand(1, 4), 5);
    }
}
