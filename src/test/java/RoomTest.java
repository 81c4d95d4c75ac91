import com.sun.management.ThreadMXBean;
import java.lang.management.ManagementFactory;

/** What an object takes, and that no call makes anything: all calls of a run live in one room. */
public final class RoomTest {
    private static final Check CHECK = new Check("room");
    private static final ThreadMXBean THREADS = (ThreadMXBean) ManagementFactory.getThreadMXBean();
    private static final int CALLS = 58;

    public static void main(String[] args) {
        String text = dearest();
        EightReasons x = Tape.of(text);
        Tape.put(x, text);
        for (int call = 0; call < CALLS; call++) {
            call(x, call);
        }
        Tape.put(x, text);
        made();
        for (int call = 0; call < CALLS; call++) {
            long start = made();
            call(x, call);
            long room = made() - start;
            CHECK.due("bytes made by call " + call, room, 0);
        }
        long before = made();
        EightReasons y = new EightReasons();
        long taken = made() - before;
        CHECK.is(taken < 24000 && y.about(0) == 0, "a new object takes " + taken + " bytes");
        CHECK.close();
    }

    private static long made() {
        return THREADS.getCurrentThreadAllocatedBytes();
    }

    private static String dearest() {
        StringBuilder text = new StringBuilder("fact a;fact b;claim c needs 2;claim d needs 2;claim e needs 2;claim f needs 2;");
        for (int i = 0; i < 12; i++) {
            text.append("strand ").append((char) ('a' + (i + i / 4) % 6)).append(' ').append((char) ('c' + i % 4)).append(" strong 2;");
        }
        return text.append("bears strong").append("+grounds*0".repeat(14)).append(";fray 40;").toString();
    }

    private static void call(EightReasons x, int call) {
        switch (call) {
            case 0 -> x.suit();
            case 1 -> x.feed(0, 0, 0, 0, 0);
            case 2 -> x.end(0);
            case 3 -> x.fault(0);
            case 4 -> x.point(0, 3);
            case 5 -> x.strand(0, 4);
            case 6 -> x.cut(0);
            case 7 -> x.tie(0);
            case 8 -> x.tighten(0, 5);
            case 9 -> x.strike(0);
            case 10 -> x.prove(0);
            case 11 -> x.day();
            case 12 -> x.undo();
            case 13 -> x.redo();
            case 14 -> x.stands();
            case 15 -> x.tight();
            case 16 -> x.hollow();
            case 17 -> x.will(60, 1);
            case 18 -> x.topple(2, 0);
            case 19 -> x.prop(2, 0);
            case 20 -> x.pivots(2);
            case 21 -> x.power(2, 0);
            case 22 -> x.lack(2);
            case 23 -> x.rank(2);
            case 24 -> x.ring(0);
            case 25 -> x.moot(2, 3, 0);
            case 26 -> x.fall(2);
            case 27 -> x.keystone(0);
            case 28 -> x.holds(0);
            case 29 -> x.spare();
            case 30 -> x.firmest(0);
            case 31 -> x.burdened();
            case 32 -> x.roots(2);
            case 33 -> x.law(5);
            case 34 -> x.worth(2);
            case 35 -> x.with(7);
            case 36 -> x.perils(2, 1);
            case 37 -> x.mend(2, 0);
            case 38 -> x.proof(2);
            case 39 -> x.counsels(2, 3);
            case 40 -> x.path(0, 3);
            case 41 -> x.shock(1);
            case 42 -> x.brings(0);
            case 43 -> x.gaps();
            case 44 -> x.best(2);
            case 45 -> x.depth();
            case 46 -> x.weakest();
            case 47 -> x.lies(0);
            case 48 -> x.odds(4, 0);
            case 49 -> x.seen(2, true);
            case 50 -> x.untell(0);
            case 51 -> x.later(1);
            case 52 -> x.ways(0);
            case 53 -> x.sure(0, 0);
            case 54 -> x.ask(0, 0);
            case 55 -> x.image(0);
            case 56 -> x.back(0);
            default -> x.about(0);
        }
    }
}
