/**
 * All that an object tells of itself, as a text. It is asked for as the last thing: what was undone is redone for it,
 * what was done undone, and the BOXES are gone back to.
 */
final class Snapshot {
    private final StringBuilder text = new StringBuilder();
    private final EightReasons x;

    private Snapshot(EightReasons x) {
        this.x = x;
    }

    static String of(EightReasons x) {
        Snapshot it = new Snapshot(x);
        it.tell("fault", x.fault(0), x.fault(1));
        it.told();
        it.lying();
        it.known();
        it.kept();
        return it.text.toString();
    }

    private void tell(String what, int... numbers) {
        text.append(text.length() == 0 ? "" : ", ").append(what);
        for (int number : numbers) {
            text.append(' ').append(number);
        }
    }

    private void told() {
        for (int what = 0; what <= 13; what++) {
            tell("about" + what, x.about(what));
        }
        for (int point = 0; point < x.about(0); point++) {
            tell("point" + point, x.point(point, 0), x.point(point, 1), x.point(point, 2), x.point(point, 3), x.point(point, 4),
                    x.rank(point));
        }
        now();
    }

    private void now() {
        tell("now", x.about(3), x.about(4), x.about(5), x.about(6), x.hollow(), x.tight(), x.stands());
        for (int strand = 0; strand < x.about(1); strand++) {
            tell("strand" + strand, x.strand(strand, 2), x.strand(strand, 4));
        }
    }

    private void lying() {
        text.append(", lies [");
        for (int i = 0; i < x.about(14); i++) {
            text.append(' ').append(x.lies(i));
        }
        text.append(" ]");
    }

    private void known() {
        for (int k = -1; k <= x.about(10) && k < 9; k++) {
            tell("ways" + k, x.ways(k));
        }
        tell("ways", x.ways(x.about(10)), x.ask(0, x.about(10)));
    }

    private void kept() {
        for (int i = 0; i < 50 && x.redo(); i++) {
            now();
        }
        for (int i = 0; i < 50 && x.undo(); i++) {
            now();
        }
        for (int box = 0; box < 3; box++) {
            tell("box" + box, x.back(box));
            now();
        }
    }
}
