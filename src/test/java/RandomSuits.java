import java.util.ArrayList;
import java.util.List;
import java.util.Random;

/** Makes texts: most are SUITS, some have a FAULT somewhere. */
final class RandomSuits {
    private static final String[] SCRAPS = {"fact", "claim", "needs", "strand", "strong", "bears", "fray", "draw", "or", "and",
        "not", "grounds", "burden", "day", ";", "(", ")", "<", ">", "=", "+", "-", "*", "/", "%", "0", "1", "99", "100", "101",
        "999", "1000", "9999", "10000", "21", "20", "5x", "abcdefgh", "abcdefghi", "a", "b", "c", "\t", "A", "#", "\u00e9", " ", "\n",
        "fact a ;", "fact z ;", "bears 1 ;", "fray 3 ;", "draw 4 ;", "claim q needs 2 ;", "strand a b strong 1 ;"};

    private final Random random;

    RandomSuits(Random random) {
        this.random = random;
    }

    String next(int mostStrands) {
        List<String> lines = new ArrayList<>();
        List<String> names = new ArrayList<>();
        List<String> claims = new ArrayList<>();
        int points = random.nextInt(10) == 0 ? random.nextInt(11) : 3 + random.nextInt(6);
        int surelyFact = random.nextInt(3);
        for (int i = 0; i < points; i++) {
            String name = name(i);
            names.add(name);
            if (random.nextInt(3) == 0 || i == surelyFact) {
                lines.add("fact " + name);
            } else {
                claims.add(name);
                lines.add("claim " + name + " needs " + (random.nextInt(9) == 0 ? 1 + random.nextInt(99) : 1 + random.nextInt(9)));
            }
        }
        addStrands(lines, names, claims, mostStrands);
        if (random.nextInt(4) != 0) {
            int at = random.nextInt(lines.size() + 1);
            lines.add(at, "bears " + formula());
        }
        if (random.nextInt(3) != 0) {
            lines.add(random.nextInt(lines.size() + 1), "fray " + (random.nextBoolean() ? random.nextInt(101) : 40));
        }
        if (random.nextInt(3) != 0) {
            lines.add(random.nextInt(lines.size() + 1), "draw " + random.nextInt(1000));
        }
        StringBuilder text = new StringBuilder();
        for (String line : lines) {
            text.append(line).append(random.nextInt(6) == 0 ? " ;\n" : ";");
        }
        return text.toString();
    }

    private void addStrands(List<String> lines, List<String> names, List<String> claims, int most) {
        List<String> told = new ArrayList<>();
        for (int tries = 0; tries < 60 && told.size() < most && !claims.isEmpty(); tries++) {
            String from = names.get(random.nextInt(names.size()));
            String to = claims.get(random.nextInt(claims.size()));
            String line = "strand " + from + " " + to + " strong ";
            if (!from.equals(to) && !told.contains(line)) {
                told.add(line);
                lines.add(line + (1 + random.nextInt(random.nextInt(4) == 0 ? 20 : 8)));
            }
        }
    }

    private String name(int i) {
        StringBuilder name = new StringBuilder().append((char) ('a' + i));
        int more = random.nextInt(8);
        for (int k = 0; k < more && random.nextInt(3) == 0; k++) {
            name.append((char) ('a' + random.nextInt(26)));
        }
        return name.append(random.nextInt(30) == 0 ? "" : "z").toString();
    }

    /** Ones that leave something to bear are likelier than wild ones. */
    private String formula() {
        switch (random.nextInt(8)) {
            case 0:
                return "strong - day";
            case 1:
                return "strong * 2 / grounds";
            case 2:
                return "strong + grounds - burden";
            case 3:
                return "strong * (burden < 2) + 1";
            case 4:
                return "strong - day % 3 + needs / 2";
            case 5:
                return "(grounds > 1 and not burden = 3) * strong";
            default:
                return either(3);
        }
    }

    private String either(int deep) {
        return chain(random.nextInt(5) == 0 ? 2 : 1, " or ", deep, 0);
    }

    private String chain(int parts, String sign, int deep, int level) {
        StringBuilder text = new StringBuilder();
        for (int i = 0; i < parts; i++) {
            String join = sign;
            if (i > 0 && level == 3) {
                join = random.nextBoolean() ? "+" : " - ";
            } else if (i > 0 && level == 4) {
                join = new String[] {"*", " / ", "%"}[random.nextInt(3)];
            }
            text.append(i > 0 ? join : "").append(part(deep, level));
        }
        return text.toString();
    }

    private String part(int deep, int level) {
        switch (level) {
            case 0:
                return chain(random.nextInt(5) == 0 ? 2 : 1, " and ", deep, 1);
            case 1:
                if (random.nextInt(8) == 0) {
                    return "not " + part(deep, 1);
                }
                String sum = chain(1 + random.nextInt(2), "", deep, 3);
                return random.nextInt(4) == 0 ? sum + "<>=".charAt(random.nextInt(3)) + chain(1, "", deep, 3) : sum;
            case 3:
                return chain(1 + random.nextInt(2), "", deep, 4);
            default:
                return unit(deep);
        }
    }

    private String unit(int deep) {
        if (deep > 0 && random.nextInt(6) == 0) {
            return "(" + either(deep - 1) + ")";
        }
        String[] words = {"strong", "grounds", "burden", "needs", "day", "strong"};
        return random.nextInt(3) == 0 ? Integer.toString(random.nextInt(random.nextInt(5) == 0 ? 10000 : 6)) : words[random.nextInt(words.length)];
    }

    /** A text with something put in, taken out, or put in another's stead. */
    String spoiled(String text) {
        String result = text;
        int times = 1 + random.nextInt(2);
        for (int i = 0; i < times; i++) {
            int at = random.nextInt(result.length() + 1);
            int behind = Math.min(result.length(), at + random.nextInt(4));
            String scrap = random.nextInt(4) == 0 ? "" : SCRAPS[random.nextInt(SCRAPS.length)];
            String around = random.nextBoolean() ? " " + scrap + " " : scrap;
            result = result.substring(0, at) + around + result.substring(behind);
        }
        return result.length() > 1600 ? result.substring(0, 1600) : result;
    }
}
