/** Each sentence of "Terms", part 1, and of promises 1 to 5 that names a boundary, on both sides of it. */
public final class EdgesOfTextTest {
    private static final Check CHECK = new Check("edges of the text");

    private static final String WORDS = "fact claim needs strand strong bears fray draw or and not grounds burden day";
    private static final String SIGNS = ";()<>=+-*/%";
    private static final String TWO = "fact f;claim c needs 1;";

    public static void main(String[] args) {
        atMost1600Bytes();
        whatEndLeaves();
        feedIsHighestFirst();
        eachByteAlone();
        eachByteBehindAWord();
        eachByteBehindANumber();
        wordsOfEight();
        numbersOfFour();
        asLongAsCanBe();
        noLetterBehindANumber();
        wordsThatAreNoNames();
        tenPoints();
        unlikeNames();
        needs1To99();
        twelveStrands();
        fromAPointToAClaim();
        strong1To20();
        eachTwoOnce();
        numberedAsTold();
        onceEach();
        frayAndDraw();
        thirtyUnits();
        withinSix();
        theFirstByItsPlace();
        atOnePlaceTheLeast();
        theEndsPlace();
        newObject();
        suitMakesAllNew();
        suitBehindSuits();
        faultLeavesAll();
        fedBehindAFault();
        faultOfTheLatest();
        CHECK.close();
    }

    private static void good(String text, int points) {
        Tape.good(CHECK, text, points);
    }

    private static void bad(String text, int fault, int place) {
        Tape.bad(CHECK, text, fault, place);
    }

    /** Names that differ: a, b, c and so on. */
    private static String name(int i) {
        return String.valueOf((char) ('a' + i));
    }

    private static String points(int facts, int claims) {
        StringBuilder text = new StringBuilder();
        for (int i = 0; i < facts + claims; i++) {
            text.append(i < facts ? "fact " + name(i) + ";" : "claim " + name(i) + " needs 1;");
        }
        return text.toString();
    }

    // "A SUIT is a text of at most 1,600 bytes"; "NONE, and nothing comes, if there would be more than 1,600"
    private static void atMost1600Bytes() {
        String full = "fact a;" + " ".repeat(1600 - 14) + "fact b;";
        good(full, 2);
        bad(full.substring(0, 1599), 2, 1599);
        good(full.substring(0, 1593), 1);
        EightReasons x = new EightReasons();
        Tape.put(x, full);
        CHECK.due("1,600 bytes", x.about(11), 1600);
        CHECK.due("a feed beyond 1,600", x.feed(0, 0, 0, 0, 0), -1);
        CHECK.due("1,600 bytes still", x.about(11), 1600);
        CHECK.due("nothing has come", x.suit(), 2);
        for (int kept : new int[] {1581, 1582, 1590, 1599, 1600}) {
            CHECK.due("a feed behind " + kept, fedBehind(kept), -1);
        }
        CHECK.due("a feed behind 1580", fedBehind(1580), 1600);
        CHECK.due("a feed behind 1579", fedBehind(1579), 1599);
        CHECK.due("a feed behind 0", fedBehind(0), 20);
    }

    private static int fedBehind(int kept) {
        EightReasons x = new EightReasons();
        Tape.put(x, " ".repeat(kept));
        int answer = x.feed(0x20202020, 0x20202020, 0x20202020, 0x20202020, 0x20202020);
        CHECK.due("bytes behind " + kept + " and a feed", x.about(11), answer == -1 ? kept : answer);
        return answer;
    }

    // "NONE, doing nothing, if it has not so many, or n is below 0"
    private static void whatEndLeaves() {
        EightReasons x = new EightReasons();
        CHECK.due("end(0) of none", x.end(0), 0);
        CHECK.due("end(1) of none", x.end(1), -1);
        CHECK.due("end(-1) of none", x.end(-1), -1);
        x.feed(0x66616374, 0x20613b66, 0x61637420, 0x623b2020, 0x20202020);
        for (int n : new int[] {21, 22, 1600, Integer.MAX_VALUE, -1, -20, Integer.MIN_VALUE}) {
            CHECK.due("end(" + n + ") of twenty", x.end(n), -1);
            CHECK.due("twenty still", x.about(11), 20);
        }
        CHECK.due("end(20) of twenty", x.end(20), 20);
        CHECK.due("end(14) of twenty", x.end(14), 14);
        CHECK.due("end(15) of fourteen", x.end(15), -1);
        CHECK.due("both facts", x.suit(), 2);
        CHECK.due("end(1) behind a suit", x.end(1), -1);
        CHECK.due("end(0) behind a suit", x.end(0), 0);
        x.feed(0x66616374, 0x20613b66, 0x61637420, 0x623b2020, 0x20202020);
        x.end(7);
        x.feed(0x66616374, 0x20633b66, 0x61637420, 0x643b2020, 0x20202020);
        CHECK.due("what comes then comes behind the first seven", x.suit(), 3);
        x.feed(0x66616374, 0x20613b66, 0x61637420, 0x623b2020, 0x20202020);
        CHECK.due("nothing is left", x.end(0), 0);
        CHECK.due("an empty suit", x.suit(), 0);
    }

    // "of each number the highest first"
    private static void feedIsHighestFirst() {
        EightReasons x = new EightReasons();
        x.feed(0x20202020, 0x20202020, 0x20202020, 0x20202020, 0x20202080);
        x.suit();
        CHECK.due("the last byte of the last number", x.fault(1), 19);
        x.end(0);
        x.feed(0x80202020, 0x20202020, 0x20202020, 0x20202020, 0x20202020);
        x.suit();
        CHECK.due("the first byte of the first number", x.fault(1), 0);
        x.end(0);
        x.feed(0x20202020, 0x20202020, 0x20ff2020, 0x20202020, 0x20202020);
        x.suit();
        CHECK.due("the second byte of the third number", x.fault(1), 9);
        CHECK.due("it is no TOKEN", x.fault(0), 1);
    }

    private static boolean isBlank(int b) {
        return b == 32 || b == 10;
    }

    private static boolean isLetter(int b) {
        return b >= 'a' && b <= 'z';
    }

    private static boolean isDigit(int b) {
        return b >= '0' && b <= '9';
    }

    private static boolean isSign(int b) {
        return SIGNS.indexOf(b) >= 0;
    }

    // "words (a .. z, ..), N (.. digits), signs ; ( ) < > = + - * / %; blanks (32, 10)": no other byte is any
    private static void eachByteAlone() {
        for (int b = 0; b < 256; b++) {
            String text = String.valueOf((char) b);
            if (isBlank(b)) {
                good(text, 0);
            } else {
                bad(text, isLetter(b) || isDigit(b) || isSign(b) ? 2 : 1, 0);
            }
        }
    }

    private static void eachByteBehindAWord() {
        for (int b = 0; b < 256; b++) {
            String text = "fact a" + (char) b;
            if (b == ';') {
                good(text, 1);
            } else if (isBlank(b) || isLetter(b)) {
                bad(text, 2, 7);
            } else {
                bad(text, isDigit(b) || isSign(b) ? 2 : 1, 6);
            }
        }
    }

    private static void eachByteBehindANumber() {
        for (int b = 0; b < 256; b++) {
            String text = "bears 1" + (char) b;
            if (b == ';') {
                good(text, 0);
            } else if (isLetter(b)) {
                bad(text, 1, 6);
            } else if (b == '(' || b == ')') {
                bad(text, 2, 7);
            } else if (isBlank(b) || isDigit(b) || isSign(b)) {
                bad(text, 2, 8);
            } else {
                bad(text, 1, 7);
            }
        }
    }

    // "words (a .. z, 8 at most)"
    private static void wordsOfEight() {
        good("fact a;", 1);
        good("fact abcdefg;", 1);
        good("fact abcdefgh;", 1);
        bad("fact abcdefghi;", 1, 5);
        bad("fact abcdefghijklmnop;", 1, 5);
        good("fact zzzzzzzz;", 1);
        bad("abcdefgh", 2, 0);
        bad("abcdefghi", 1, 0);
        good(TWO.replace("f;", "abcdefgh;") + "strand abcdefgh c strong 1;", 2);
        bad(TWO + "strand abcdefghi c strong 1;", 1, 30);
        bad(TWO + "strand f abcdefghi strong 1;", 1, 32);
        bad("bears groundss;", 2, 6);
        bad("bears groundsss;", 1, 6);
        // thirteen letters are as many as five bits each leave room for in a long: none may look like another word
        bad("fact a;fact " + "a".repeat(14) + ";", 1, 12);
        bad("aaaaaaaaafact a;", 1, 0);
    }

    // "N (1 to 4 digits)"
    private static void numbersOfFour() {
        good("bears 0;", 0);
        good("bears 9999;", 0);
        good("bears 0000;", 0);
        bad("bears 00000;", 1, 6);
        bad("bears 10000;", 1, 6);
        bad("bears 99999999999999999999;", 1, 6);
        good("claim a needs 0001;", 1);
        bad("claim a needs 00001;", 1, 14);
        good("fray 0100;draw 0999;", 0);
        bad("fray 00100;", 1, 5);
        bad("draw 00999;", 1, 5);
        EightReasons x = Tape.of("fact f;claim c needs 0007;strand f c strong 0012;bears 0013;fray 0014;draw 0015;");
        CHECK.due("0007", x.point(1, 1), 7);
        CHECK.due("0012", x.strand(0, 2), 12);
        CHECK.due("0013", x.strand(0, 4), 13);
        CHECK.due("0014", x.about(13), 14);
        CHECK.due("0015", x.about(6), 15);
    }

    // "blanks (32, 10) part them or not; each is as long as can be"
    private static void asLongAsCanBe() {
        bad("facta;", 2, 0);
        bad("fact ab", 2, 7);
        good("fact\n\n  \na\n ;\n", 1);
        good("\nfact a;", 1);
        bad("fa ct a;", 2, 0);
        bad("fact a b;", 2, 7);
        good("claim a needs1;", 1);
        bad("claim aneeds 1;", 2, 13);
        bad("claim a needs 1 1;", 2, 16);
        good("bears 1+1*(2)<(3)and(4)or not(5);", 0);
        bad("bears notday;", 2, 6);
        good("bears not day;", 0);
        good("bears(day)and day;", 0);
        good("bears(day)and(day);", 0);
        bad("bears day and3day;", 1, 13);
        good("bears day and3;", 0);
        good("fact needss;fact need;fact fac;fact factx;", 4);
    }

    // "no letter directly behind an N"
    private static void noLetterBehindANumber() {
        bad("bears 1or 2;", 1, 6);
        good("bears 1 or 2;", 0);
        good("bears 1\nor 2;", 0);
        good("bears (1)or 2;", 0);
        bad("bears 12and 2;", 1, 6);
        bad("bears 2+34x;", 1, 8);
        bad("bears 2+34 x;", 2, 11);
        bad("claim a needs 5strong;", 1, 14);
        bad("claim a needs 5 strong;", 2, 16);
        bad("fray 5fact a;", 1, 5);
        good("fray 5;fact a;", 1);
        bad("bears 1a", 1, 6);
        bad("bears 1z", 1, 6);
        bad("bears 1A", 1, 7);
    }

    // "Words that stand for themselves here are no NAMES"
    private static void wordsThatAreNoNames() {
        for (String word : WORDS.split(" ")) {
            bad("fact " + word + ";", 2, 5);
            bad("claim " + word + " needs 1;", 2, 6);
            bad(TWO + "strand " + word + " c strong 1;", 2, 30);
            bad(TWO + "strand f " + word + " strong 1;", 2, 32);
            good("fact " + word.substring(1) + "q;", 1);
            good("fact " + word.substring(0, word.length() - 1) + ";", 1);
            good("fact " + word + "s;", 1);
        }
        for (String word : "e n line suit one both sum term unit name point tape struck tied proved time".split(" ")) {
            good("fact " + word + ";", 1);
            good("claim " + word + " needs 1;", 1);
        }
    }

    // "At most 10 POINTS (facts and claims together ..)"; "one of a sort too many ..: at the line's first word"
    private static void tenPoints() {
        for (int facts = 0; facts <= 10; facts++) {
            String ten = points(facts, 10 - facts);
            good(points(facts, 9 - Math.min(facts, 9)), Math.max(9, facts));
            good(ten, 10);
            bad(ten + "fact k;", 2, ten.length());
            bad(ten + "claim k needs 1;", 2, ten.length());
        }
        String ten = points(5, 5);
        bad(ten + "  fact k;", 2, ten.length() + 2);
        bad(ten + "fact a;", 2, ten.length());
        bad(ten + "fact #", 2, ten.length());
        bad(ten + "claim k needs 0;", 2, ten.length());
        good(ten + "strand a f strong 1;bears 1;fray 1;draw 1;", 10);
        EightReasons x = Tape.of(ten);
        CHECK.due("the tenth", x.point(9, 0), 0);
        CHECK.due("no eleventh", x.point(10, 0), -1);
    }

    // "unlike NAMES"; "3 a NAME told already .."
    private static void unlikeNames() {
        bad("fact a;fact a;", 3, 12);
        good("fact a;fact b;", 2);
        bad("fact a;claim a needs 1;", 3, 13);
        bad("claim a needs 1;fact a;", 3, 21);
        bad("claim a needs 1;claim a needs 2;", 3, 22);
        good("fact a;fact aa;fact aaa;fact aaaaaaaa;", 4);
        good("fact abcdefgh;fact abcdefgg;fact bbcdefgh;fact abcdefg;", 4);
        bad("fact abcdefgh;fact bbcdefgh;fact abcdefgh;", 3, 33);
        good("fact z;fact zz;fact az;fact za;", 4);
        bad(points(9, 0) + "fact i;", 3, 9 * 7 + 5);
        good(points(9, 0) + "fact j;", 10);
        bad(points(0, 9) + "fact a;", 3, 9 * 16 + 5);
        // a NAME of the SUIT before this one is none of this one
        EightReasons x = Tape.of("fact a;fact b;");
        CHECK.due("names of the one before", Tape.suit(x, "fact b;fact a;"), 2);
        CHECK.due("nor do they bear", Tape.suit(x, "claim c needs 1;strand a c strong 1;"), -1);
        CHECK.due("a NAME that no POINT has", x.fault(0), 5);
    }

    // "needs 1 .. 99"; "4 a number that can't be"
    private static void needs1To99() {
        bad("claim a needs 0;", 4, 14);
        good("claim a needs 1;", 1);
        good("claim a needs 99;", 1);
        bad("claim a needs 100;", 4, 14);
        bad("claim a needs 9999;", 4, 14);
        bad("claim a needs  0000;", 4, 15);
        CHECK.due("needs 1", Tape.of("claim a needs 1;").point(0, 1), 1);
        CHECK.due("needs 99", Tape.of("claim a needs 99;").point(0, 1), 99);
    }

    private static String strands(int n) {
        StringBuilder text = new StringBuilder(points(5, 5));
        for (int i = 0; i < n; i++) {
            text.append("strand ").append(name(i % 5)).append(' ').append(name(5 + i / 5)).append(" strong 1;");
        }
        return text.toString();
    }

    // "12 STRANDS"
    private static void twelveStrands() {
        String twelve = strands(12);
        good(strands(11), 10);
        good(twelve, 10);
        bad(strands(13), 2, twelve.length());
        bad(twelve + " strand a f strong 1;", 2, twelve.length() + 1);
        bad(twelve + "strand x y strong 99;", 2, twelve.length());
        bad(twelve + "strand", 2, twelve.length());
        good(twelve + "bears 1;fray 1;draw 1;", 10);
        EightReasons x = Tape.of(twelve);
        CHECK.due("the twelfth", x.strand(11, 0), 1);
        CHECK.due("the twelfth's claim", x.strand(11, 1), 7);
        CHECK.due("no thirteenth", x.strand(12, 0), -1);
    }

    // "(from a POINT to a claim, both told ahead, unlike ..)"; "3 .. a STRAND to itself, to a fact"; "5 a NAME that no POINT has"
    private static void fromAPointToAClaim() {
        good(TWO + "strand f c strong 1;", 2);
        bad(TWO + "strand f f strong 1;", 3, 32);
        bad(TWO + "strand c f strong 1;", 3, 32);
        bad(TWO + "strand c c strong 1;", 3, 32);
        bad(TWO + "fact g;strand f g strong 1;", 3, 39);
        good(TWO + "claim d needs 1;strand c d strong 1;", 3);
        bad(TWO + "strand x c strong 1;", 5, 30);
        bad(TWO + "strand f x strong 1;", 5, 32);
        bad(TWO + "strand x x strong 1;", 5, 30);
        bad(TWO + "strand f d strong 1;claim d needs 1;", 5, 32);
        bad(TWO + "strand g c strong 1;fact g;", 5, 30);
        good(TWO + "fact g;strand g c strong 1;", 3);
        bad("strand f c strong 1;" + TWO, 5, 7);
        bad(TWO + "strand f;", 2, 31);
        bad(TWO + "strand f c;", 2, 33);
        bad(TWO + "strand f c 1;", 2, 34);
        bad(TWO + "strand f c strong 1", 2, 42);
    }

    // "strong 1 .. 20"
    private static void strong1To20() {
        bad(TWO + "strand f c strong 0;", 4, 41);
        good(TWO + "strand f c strong 1;", 2);
        good(TWO + "strand f c strong 20;", 2);
        bad(TWO + "strand f c strong 21;", 4, 41);
        bad(TWO + "strand f c strong 9999;", 4, 41);
        CHECK.due("strong 1", Tape.of(TWO + "strand f c strong 1;").strand(0, 2), 1);
        CHECK.due("strong 20", Tape.of(TWO + "strand f c strong 20;").strand(0, 2), 20);
    }

    // "each two once in this order"; "3 .. or told already (at the second NAME)"
    private static void eachTwoOnce() {
        String claims = "claim a needs 1;claim b needs 1;claim c needs 1;strand a b strong 1;";
        good(claims + "strand b a strong 1;", 3);
        good(claims + "strand a c strong 1;strand c b strong 1;strand b c strong 1;strand c a strong 1;strand b a strong 1;", 3);
        bad(claims + "strand a b strong 1;", 3, claims.length() + 9);
        bad(claims + "strand a b strong 2;", 3, claims.length() + 9);
        bad(claims + "strand a c strong 1;strand a b strong 1;", 3, claims.length() + 29);
        bad(claims + "strand a c strong 1;strand a c strong 1;", 3, claims.length() + 29);
        bad(claims + "strand b a strong 1;strand b a strong 1;", 3, claims.length() + 29);
        bad(claims + "strand  a  b  strong 0;", 3, claims.length() + 11);
    }

    // "numbered as told, POINTS and STRANDS by themselves"
    private static void numberedAsTold() {
        EightReasons x = Tape.of("claim z needs 7;fact a;strand a z strong 5;claim b needs 8;strand z b strong 6;fray 3;fact y;strand y b strong 4;");
        int[][] dueOfPoints = {{0, 7}, {1, 0}, {0, 8}, {1, 0}};
        int[][] dueOfStrands = {{1, 0, 5}, {0, 2, 6}, {3, 2, 4}};
        for (int point = 0; point < 4; point++) {
            CHECK.due("as told, POINT " + point, x.point(point, 0), dueOfPoints[point][0]);
            CHECK.due("as told, needs of POINT " + point, x.point(point, 1), dueOfPoints[point][1]);
        }
        for (int strand = 0; strand < 3; strand++) {
            for (int what = 0; what < 3; what++) {
                CHECK.due("as told, STRAND " + strand + " " + what, x.strand(strand, what), dueOfStrands[strand][what]);
            }
        }
    }

    // "bears, fray .., draw .. once each"; "2 .. a second time: at the line's first word"
    private static void onceEach() {
        for (String line : new String[] {"bears 1;", "fray 1;", "draw 1;"}) {
            good(line, 0);
            bad(line + line, 2, line.length());
            bad(line + "fact a; " + line, 2, line.length() + 8);
            bad(line + line.substring(0, 5), 2, line.length());
            bad(line + line.substring(0, 5) + " 99999", 2, line.length());
        }
        good("bears 1;fray 1;draw 1;", 0);
        good("draw 1;fray 1;bears 1;", 0);
        EightReasons x = Tape.of("bears 1;fray 1;draw 1;");
        CHECK.due("once each in the next suit, too", Tape.suit(x, "bears 1;fray 1;draw 1;"), 0);
        Tape.suit(x, "bears 1;fray 1;draw 1;x");
        CHECK.due("and behind a fault", Tape.suit(x, "bears 1;fray 1;draw 1;"), 0);
    }

    // "fray (0 .. 100 of 100; 0), draw (0 .. 999; 0)"
    private static void frayAndDraw() {
        good("fray 0;", 0);
        good("fray 100;", 0);
        bad("fray 101;", 4, 5);
        bad("fray 9999;", 4, 5);
        good("draw 0;", 0);
        good("draw 999;", 0);
        bad("draw 1000;", 4, 5);
        bad("draw 9999;", 4, 5);
        CHECK.due("fray 100", Tape.of("fray 100;").about(13), 100);
        CHECK.due("draw 999", Tape.of("draw 999;").about(6), 999);
        CHECK.due("fray not told", Tape.of("draw 999;").about(13), 0);
        CHECK.due("draw not told", Tape.of("fray 100;").about(6), 0);
        EightReasons x = Tape.of("fray 100;draw 999;bears 7;");
        Tape.suit(x, TWO + "strand f c strong 2;");
        CHECK.due("fray not told this time", x.about(13), 0);
        CHECK.due("draw not told this time", x.about(6), 0);
        CHECK.due("bears not told this time", x.strand(0, 4), 2);
        CHECK.due("no units this time", x.about(12), 0);
    }

    private static String sum(String unit, int units) {
        return unit + ("+" + unit).repeat(units - 1);
    }

    // "30 in one e"; "a unit too many ..: at its first TOKEN"
    private static void thirtyUnits() {
        for (String unit : new String[] {"1", "strong", "grounds", "burden", "needs", "day", "9999"}) {
            good("bears " + sum(unit, 29) + ";", 0);
            good("bears " + sum(unit, 30) + ";", 0);
            bad("bears " + sum(unit, 31) + ";", 2, 6 + 30 * (unit.length() + 1));
            bad("bears " + sum(unit, 30) + "+ " + unit, 2, 6 + 30 * (unit.length() + 1) + 1);
        }
        for (String sign : new String[] {"<", " or ", " and ", "*", "/", "%", "-", " and not "}) {
            String thirty = "bears " + sum("1", 30) + sign;
            bad(thirty + "1;", 2, thirty.length());
            bad(thirty + "(1);", 2, thirty.length());
            good("bears " + sum("1", 29) + sign + "1;", 0);
        }
        good("bears " + sum("1", 28) + "*(1);", 0);
        bad("bears " + sum("1", 29) + "*(1);", 2, 6 + 57 + 2);
        bad("bears " + sum("1", 30) + "*(1);", 2, 6 + 59 + 1);
        good("bears (" + sum("1", 14) + ")*(" + sum("1", 14) + ");", 0);
        bad("bears (" + sum("1", 14) + ")*(" + sum("1", 15) + ");", 2, 6 + 29 + 2 + 28);
        CHECK.due("thirty units", Tape.of("bears " + sum("day", 30) + ";").about(12), 30);
        CHECK.due("one unit", Tape.of("bears day;").about(12), 1);
        CHECK.due("a unit in a unit", Tape.of("bears (day);").about(12), 2);
        CHECK.due("no units", Tape.of("fray 1;").about(12), 0);
        EightReasons x = Tape.of(TWO + "strand f c strong 1;bears " + sum("7", 30) + ";");
        CHECK.due("all thirty are there", x.strand(0, 4), 210);
    }

    // "(a unit ( e ), or a one behind not, within 6 others at most)"; "what is within 7 others: at its first TOKEN, or the not"
    private static void withinSix() {
        for (int nots = 0; nots <= 7; nots++) {
            String outer = "bears " + "not ".repeat(nots) + "(".repeat(7 - nots);
            String close = ")".repeat(7 - nots);
            good(outer + "1" + close + ";", 0);
            bad(outer + "(1)" + close + ";", 2, outer.length());
            bad(outer + "  (1)" + close + ";", 2, outer.length() + 2);
            bad(outer + "not 1" + close + ";", 2, outer.length());
            bad(outer + "1*(1)" + close + ";", 2, outer.length() + 2);
            if (nots < 7) {
                bad(outer + "1 and not 1" + close + ";", 2, outer.length() + 6);
            }
            good(outer + "1+1 and day<1" + close + ";", 0);
        }
        String mixed = "bears not (not (not (not ";
        good(mixed + "1)));", 0);
        bad(mixed + "(1))));", 2, mixed.length());
        // others that are closed are no others around it
        good("bears (((((((1)))))))+(((((((1)))))));", 0);
        good("bears not not not not not not not 1 and not not not not not not not 1;", 0);
        good("bears not ((((((1))))))=1;", 0);
        bad("bears not (((((((1)))))))=1;", 2, 16);
        good("bears not 1 and (((((((1)))))));", 0);
        bad("bears ((((((((1))))))));", 2, 13);
        EightReasons x = Tape.of(TWO + "strand f c strong 1;bears (((((((5)))))));");
        CHECK.due("seven around a unit", x.strand(0, 4), 5);
        CHECK.due("seven nots", Tape.of(TWO + "strand f c strong 1;bears not not not not not not not 0;").strand(0, 4), 1);
        CHECK.due("eight units", x.about(12), 8);
    }

    // "FAULTS, the first by its place"
    private static void theFirstByItsPlace() {
        bad("fact a;strand a b strong 0;#", 5, 16);
        bad("fact a;#strand a b strong 0;", 1, 7);
        bad("claim a needs 0;fact a;", 4, 14);
        bad("fact a fact a;", 2, 7);
        bad("fact a;fact a #", 3, 12);
        bad("fray 101;fray 1;", 4, 5);
        bad("fray 1;fray 101;", 2, 7);
        bad("bears 1+;bears 1;", 2, 8);
        bad("strand x c strong 99;", 5, 7);
        bad(TWO + "strand f c strong 99 #", 4, 41);
        bad(TWO + "strand c c strong 99", 3, 32);
        bad("bears " + sum("1", 30) + "#+1;", 1, 65);
        bad("bears " + sum("1", 31) + "#;", 2, 66);
    }

    // "at one place the least"
    private static void atOnePlaceTheLeast() {
        bad("fact 5x;", 1, 5);
        bad("claim a needs 0x;", 1, 14);
        bad("claim a needs 12345;", 1, 14);
        bad("fact abcdefghi", 1, 5);
        bad(TWO + "strand abcdefghi c strong 1;", 1, 30);
        bad(TWO + "strand f c strong #", 1, 41);
        bad("fray 1 101;", 2, 7);
        bad("claim a 0;", 2, 8);
        bad("bears " + sum("1", 30) + "+12345;", 1, 66);
        bad("bears (((((((" + "#", 1, 13);
        bad("bears (((((((not (1))))))));", 2, 13);
        bad(TWO + "strand f fact strong 1;", 2, 32);
    }

    // "the end: the text's length"
    private static void theEndsPlace() {
        for (String text : new String[] {"fact", "fact a", "claim", "claim a", "claim a needs", "claim a needs 1", "bears", "bears 1",
            "bears 1 +", "bears 1 <", "bears not", "bears (", "bears (1", "bears (1)", "bears 1 or", "fray", "fray 1", "draw", "draw 1",
            TWO + "strand", TWO + "strand f", TWO + "strand f c", TWO + "strand f c strong", TWO + "strand f c strong 1"}) {
            bad(text, 2, text.length());
            bad(text + " ", 2, text.length() + 1);
            bad(text + " \n \n", 2, text.length() + 4);
            bad(text + " #", 1, text.length() + 1);
        }
        good("", 0);
        good("\n", 0);
        good(TWO + " \n", 2);
    }

    // "An empty SUIT."
    private static void newObject() {
        EightReasons x = new EightReasons();
        for (int what = 0; what <= 14; what++) {
            CHECK.due("of a new object, about " + what, x.about(what), 0);
        }
        CHECK.due("no POINT", x.point(0, 0), -1);
        CHECK.due("no STRAND", x.strand(0, 0), -1);
        CHECK.due("nothing stands", x.stands(), 0);
        CHECK.due("nothing is tight", x.tight(), 0);
        CHECK.due("nothing is hollow", x.hollow(), 0);
        CHECK.due("nothing lies there", x.lies(0), -1);
        CHECK.due("no fault", x.fault(0), 0);
        CHECK.due("no place", x.fault(1), -1);
        for (int box = 0; box < 3; box++) {
            CHECK.due("an empty box " + box, x.back(box), -1);
        }
        CHECK.due("one way", x.ways(0), 1);
        CHECK.is(!x.undo() && !x.redo() && !x.untell(0), "nothing is kept, nothing seen");
        CHECK.due("the empty text", x.suit(), 0);
    }

    private static EightReasons busy(String rest) {
        EightReasons x = Tape.of("fact f;fact g;claim c needs 2;strand f c strong 2;strand g c strong 3;bears strong;fray 100;draw 5;");
        x.later(7);
        x.seen(2, true);
        x.seen(2, false);
        x.untell(1);
        x.day();
        x.image(0);
        x.image(2);
        x.strike(1);
        x.cut(0);
        x.tighten(0, 9);
        x.undo();
        x.proof(2);
        Tape.put(x, rest);
        return x;
    }

    // "(all as told, day 0, no ACTS are kept, nothing is SEEN, nothing lies there, BOXES are empty then; the TIME stays)"
    private static void suitMakesAllNew() {
        EightReasons x = busy("fact f;fact g;claim c needs 2;strand f c strong 2;strand g c strong 3;bears strong;fray 100;draw 5;");
        x.tie(0);
        CHECK.due("something lies there before", x.counsels(2, 2) + 1, 0);
        CHECK.due("a proof", x.proof(2), -1);
        x.prove(1);
        CHECK.due("a proof then", x.proof(2), 3);
        CHECK.due("how many POINTS", x.suit(), 3);
        int[] due = {3, 2, 3, 0, 3, 0, 5, 0, 0, 0, 7, 0, 1, 100, 0};
        for (int what = 0; what < due.length; what++) {
            CHECK.due("behind a suit, about " + what, x.about(what), due[what]);
        }
        CHECK.due("as strong as told", x.strand(0, 2), 2);
        CHECK.due("as strong as told, the other", x.strand(1, 2), 3);
        CHECK.due("nothing lies there", x.lies(0), -1);
        CHECK.is(!x.undo() && !x.redo(), "no ACTS are kept");
        CHECK.is(!x.untell(0) && !x.untell(1), "nothing is SEEN");
        for (int box = 0; box < 3; box++) {
            CHECK.due("BOX " + box + " is empty", x.back(box), -1);
        }
        CHECK.due("the first that is SEEN", x.seen(2, true), 0);
        CHECK.due("an empty TAPE is an empty SUIT", x.suit(), 0);
        CHECK.due("nothing of it is left", x.about(0) + x.about(1) + x.about(4) + x.about(9) + x.about(12) + x.about(13), 0);
    }

    // "The TAPE .. is the SUIT": of those before it nothing is left
    private static void suitBehindSuits() {
        String full = "claim a needs 1;claim b needs 2;fact c;fact d;claim e needs 3;strand c a strong 1;strand a b strong 2;strand b e strong 3;"
                + "strand d e strong 4;bears strong * 2;fray 50;draw 77;";
        String[] texts = {"", "fact a;", "fact a;fact b;claim c needs 9;strand b c strong 9;", "claim a needs 1;", full,
            "fact a;claim b needs 1;fact c;claim d needs 4;strand a b strong 3;strand b d strong 4;", "bears 1;", "fray 7;", "draw 8;"};
        for (String text : texts) {
            String due = Snapshot.of(Tape.of(text));
            for (int before = 0; before < 4; before++) {
                EightReasons x = new EightReasons();
                for (int i = 0; i < before; i++) {
                    Tape.suit(x, full);
                    x.depth();
                }
                Tape.suit(x, full + "x");
                Tape.suit(x, text);
                CHECK.due("behind " + before + " others: " + text, Snapshot.of(x), due);
            }
        }
    }

    // "NONE: a FAULT (all stays)"
    private static void faultLeavesAll() {
        for (String text : new String[] {"x", "fact a;fact a", "fact a;claim b needs 9;strand a b strong 9;bears 9+9;fray 9;draw 9;#"}) {
            EightReasons x = busy(text);
            String before = Snapshot.of(busy(text)).replaceFirst("fault 0 -1", "");
            CHECK.due("a FAULT", x.suit(), -1);
            CHECK.is(x.fault(0) != 0 && x.fault(1) >= 0, "it is told");
            CHECK.due("the TAPE stays", x.about(11), text.length());
            CHECK.due("all stays", Snapshot.of(x).replaceFirst("fault \\d+ \\d+", ""), before);
        }
    }

    // "NONE: a FAULT (all stays)": the TAPE, too, and what is fed then comes behind it
    private static void fedBehindAFault() {
        EightReasons x = new EightReasons();
        Tape.put(x, "fact a");
        CHECK.due("not at its end yet", x.suit(), -1);
        CHECK.due("at the end", x.fault(1), 6);
        CHECK.due("a feed behind it", x.feed(0x3b666163, 0x7420623b, 0x20202020, 0x20202020, 0x20202020), 26);
        CHECK.due("both facts", x.suit(), 2);
        CHECK.due("the TAPE is empty", x.about(11), 0);
    }

    // "Of the latest suit() what 0: its FAULT (0), 1: its place (NONE). NONE for another what."
    private static void faultOfTheLatest() {
        EightReasons x = new EightReasons();
        int[][] due = {{0, -1}, {2, 4}, {1, 3}, {0, -1}, {4, 5}};
        String[] texts = {"", "fact", "   #", "fact a;", "draw 1000;"};
        for (int i = 0; i < texts.length; i++) {
            Tape.suit(x, texts[i]);
            CHECK.due("fault of " + texts[i], x.fault(0), due[i][0]);
            CHECK.due("place of " + texts[i], x.fault(1), due[i][1]);
            x.feed(0x23232323, 0x23232323, 0x23232323, 0x23232323, 0x23232323);
            CHECK.due("what is fed is not read yet", x.fault(0), due[i][0]);
            for (int what : new int[] {-1, 2, 3, Integer.MAX_VALUE, Integer.MIN_VALUE}) {
                CHECK.due("fault " + what, x.fault(what), -1);
            }
        }
    }
}
