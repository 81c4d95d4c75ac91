import java.nio.charset.StandardCharsets;
import java.util.Arrays;

/** Puts texts on an object's TAPE. */
final class Tape {
    /** The web of most tests, all of which stands: f 0, g 1, a 2, b 3, c 4. */
    static final String WEB = "fact f;fact g;claim a needs 3;claim b needs 2;claim c needs 4;strand f a strong 3;strand g a strong 2;"
            + "strand a b strong 2;strand b c strong 3;strand g c strong 2;strand c b strong 1;";

    private Tape() {
    }

    /** The numbers of one feed, from the text's byte at a place on; blanks behind its end. */
    static int[] words(String text, int from) {
        byte[] bytes = Arrays.copyOf(text.getBytes(StandardCharsets.ISO_8859_1), (text.length() / 20 + 2) * 20);
        Arrays.fill(bytes, text.length(), bytes.length, (byte) 32);
        int[] words = new int[5];
        for (int i = 0; i < 20; i++) {
            words[i / 4] = words[i / 4] << 8 | bytes[from + i] & 255;
        }
        return words;
    }

    static void put(EightReasons x, String text) {
        x.end(0);
        for (int from = 0; from < text.length(); from += 20) {
            int[] w = words(text, from);
            x.feed(w[0], w[1], w[2], w[3], w[4]);
        }
        x.end(text.length());
    }

    static int suit(EightReasons x, String text) {
        put(x, text);
        return x.suit();
    }

    static EightReasons of(String text) {
        EightReasons x = new EightReasons();
        if (suit(x, text) == EightReasons.NONE) {
            throw new IllegalArgumentException("fault " + x.fault(0) + " at " + x.fault(1) + " in " + text);
        }
        return x;
    }

    /** A text that is a SUIT of so many POINTS. */
    static void good(Check check, String text, int points) {
        EightReasons x = new EightReasons();
        check.due(text + ": suit", suit(x, text), points);
        check.due(text + ": fault", x.fault(0), 0);
        check.due(text + ": place", x.fault(1), -1);
    }

    /** A text with a FAULT at a place. */
    static void bad(Check check, String text, int fault, int place) {
        EightReasons x = new EightReasons();
        check.due(text + ": suit", suit(x, text), -1);
        check.due(text + ": fault", x.fault(0), fault);
        check.due(text + ": place", x.fault(1), place);
    }
}
