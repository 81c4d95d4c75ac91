import java.lang.reflect.Method;
import java.util.ArrayList;
import java.util.HashMap;
import java.util.List;
import java.util.Map;
import java.util.Random;

/** Random runs of calls, on an object and on the model: both answer the same. Promises 1 to 59. */
public final class ModelRunsTest {

    /** Calls and the sorts of what they take: see argument(). */
    private static final String[] CALLS = {"cut s", "cut s", "tie s", "tie s", "tighten s g", "tighten s g", "strike p", "prove p",
        "day", "day", "undo", "redo", "stands", "tight", "hollow", "will n w", "topple p w", "prop p w", "pivots p", "power p s",
        "lack p", "rank p", "ring w", "moot p m w", "fall p", "keystone w", "holds p", "spare", "firmest w", "burdened", "roots p",
        "law n", "worth p", "with b", "perils p w", "mend p w", "proof p", "counsels p p", "path p p", "shock g", "brings s", "gaps",
        "best p", "depth", "weakest", "lies s", "odds m w", "seen p y", "seen p y", "untell s", "later g", "ways k", "sure s k",
        "ask w k", "image x", "back x", "about a", "about a", "point p f", "strand s f", "fault w"};

    private final Random random;
    private final RandomSuits suits;
    private final Map<String, Method> real = new HashMap<>();
    private final Map<String, Method> modelled = new HashMap<>();
    private final Check check = new Check("model runs");
    private final List<String> log = new ArrayList<>();
    private EightReasons x;
    private Model model;

    private ModelRunsTest(long seed) {
        random = new Random(seed);
        suits = new RandomSuits(random);
        for (Method method : EightReasons.class.getMethods()) {
            real.put(method.getName(), method);
        }
        for (Method method : Model.class.getMethods()) {
            modelled.put(method.getName(), method);
        }
    }

    public static void main(String[] args) throws ReflectiveOperationException {
        int runs = args.length > 0 ? Integer.parseInt(args[0]) : 250;
        long seed = args.length > 1 ? Long.parseLong(args[1]) : 20261118L;
        ModelRunsTest test = new ModelRunsTest(seed);
        for (int run = 0; run < runs && !test.check.isTired(); run++) {
            test.run(run);
        }
        for (int text = 0; text < runs * 40 && !test.check.isTired(); text++) {
            test.text();
        }
        test.check.close();
    }

    private void run(int run) throws ReflectiveOperationException {
        begin();
        put(suits.next(run % 25 == 0 ? 12 : 3 + random.nextInt(5)));
        int calls = run % 25 == 0 ? 40 : 150;
        for (int i = 0; i < calls && !check.isTired(); i++) {
            if (random.nextInt(90) == 0) {
                String text = suits.next(6);
                put(random.nextBoolean() ? suits.spoiled(text) : text);
            }
            String[] parts = CALLS[random.nextInt(CALLS.length)].split(" ");
            Object[] arguments = new Object[parts.length - 1];
            for (int a = 0; a < arguments.length; a++) {
                arguments[a] = argument(parts[a + 1].charAt(0));
            }
            call(parts[0], arguments);
            if (random.nextInt(20) == 0) {
                check.due("stands by sets " + log, x.stands(), model.standingBySets());
            }
        }
        everything();
    }

    /** A text alone, with all that it leaves behind. */
    private void text() throws ReflectiveOperationException {
        begin();
        put(suits.spoiled(suits.next(random.nextInt(14))));
        everything();
    }

    private void begin() {
        x = new EightReasons();
        model = new Model();
        log.clear();
    }

    private void put(String text) throws ReflectiveOperationException {
        log.clear();
        log.add("[" + text + "]");
        call("end", 0);
        for (int from = 0; from < text.length(); from += 20) {
            int[] w = Tape.words(text, from);
            call("feed", w[0], w[1], w[2], w[3], w[4]);
        }
        call("end", text.length());
        call("suit");
        call("fault", 0);
        call("fault", 1);
    }

    private void everything() throws ReflectiveOperationException {
        for (int what = -1; what <= 15; what++) {
            call("about", what);
        }
        for (int number = -1; number <= 12; number++) {
            for (int what = -1; what <= 5; what++) {
                call("point", number, what);
                call("strand", number, what);
            }
            call("lies", number);
        }
    }

    private void call(String name, Object... arguments) throws ReflectiveOperationException {
        if (check.isTired()) {
            return;
        }
        StringBuilder text = new StringBuilder(name);
        for (Object argument : arguments) {
            text.append(' ').append(argument);
        }
        if (!name.equals("feed")) {
            log.add(text.toString());
        }
        Object got = real.get(name).invoke(x, arguments);
        Object want = modelled.get(name).invoke(model, arguments);
        String told = got.equals(want) ? "" : log.toString();
        check.due(told, got.toString(), want.toString());
    }

    private Object argument(char sort) {
        if (sort != 'y' && random.nextInt(60) == 0) {
            int[] wild = {Integer.MIN_VALUE, Integer.MAX_VALUE, -1, -2, 32, 33, 64, 100, 1000, 1001, 61, 31};
            return wild[random.nextInt(wild.length)];
        }
        switch (sort) {
            case 'p':
                return random.nextInt(x.about(0) + 1) - random.nextInt(2) * random.nextInt(2);
            case 's':
                return random.nextInt(x.about(1) + 1) - random.nextInt(2) * random.nextInt(2);
            case 'g':
                return random.nextInt(22);
            case 'n':
                return random.nextBoolean() ? random.nextInt(12) : random.nextInt(102);
            case 'w':
                return random.nextInt(15) == 0 ? random.nextInt(5) - 2 : random.nextInt(2);
            case 'm':
                return random.nextInt(5);
            case 'b':
                return random.nextInt(1 << x.about(1)) << (random.nextInt(10) == 0 ? 1 : 0);
            case 'y':
                return random.nextInt(4) != 0;
            case 'k':
                return random.nextInt(3) == 0 ? x.about(10) : random.nextInt(x.about(10) + 3) - 1;
            case 'x':
                return random.nextInt(4);
            case 'a':
                return random.nextInt(16);
            default:
                return random.nextInt(6);
        }
    }
}
