import java.util.function.Supplier;

/**
 * All that can be seen of a tower, as a text. Each look is at a tower made anew, so that no look
 * changes what the next one sees, and no tower is used for too many calls.
 */
final class State {
    private State() {
    }

    /** The first answer that two towers differ in; "" if there is none. */
    static String difference(Supplier<TagTower> made, Supplier<TagTower> other) {
        String[] ours = of(made).split("\n");
        String[] theirs = of(other).split("\n");
        for (int i = 0; i < ours.length; i++) {
            if (!ours[i].equals(theirs[i])) {
                return ours[i] + ", not " + theirs[i];
            }
        }
        return "";
    }

    private static String of(Supplier<TagTower> made) {
        StringBuilder all = new StringBuilder();
        program(made, all);
        machine(made, all);
        word(made, all);
        bits(made, all);
        return all.toString();
    }

    private static void tell(StringBuilder all, String what, int... answers) {
        all.append(what);
        for (int one : answers) {
            all.append(' ').append(one);
        }
        all.append('\n');
    }

    private static void program(Supplier<TagTower> made, StringBuilder all) {
        TagTower x = made.get();
        tell(all, "counters", x.counter(0), x.counter(1), x.counter(2), x.counter(3), x.at(), x.wipe());
        for (int line = 0; line < 24; line++) {
            for (int v = 0; v < 2; v++) {
                x = made.get();
                x.go(line);
                for (int r = 0; r < 4; r++) {
                    x.set(r, v);
                }
                tell(all, "line " + line + " at counters of " + v, x.count(1), x.at(),
                    x.counter(0), x.counter(1), x.counter(2), x.counter(3));
            }
        }
    }

    private static void machine(Supplier<TagTower> made, StringBuilder all) {
        TagTower x = made.get();
        tell(all, "place", x.where(0), x.where(1), x.where(2), x.where(3), x.where(4));
        for (int pair = 0; pair < 6; pair++) {
            x.place(pair / 2, pair % 2, 2, 5);
            tell(all, "rule " + pair, x.move(1), x.where(0), x.where(1), x.where(2), x.where(3));
            for (int sign = 1; sign <= 20; sign++) {
                int letter = 20 * pair + sign;
                tell(all, "production " + letter, x.production(letter, 0), x.production(letter, 2));
            }
        }
    }

    private static void word(Supplier<TagTower> made, StringBuilder all) {
        TagTower x = made.get();
        tell(all, "word", x.length(), x.told(0), x.told(1), x.told(2), x.told(3));
        for (int i = 0; i < 600; i++) {
            x = i % 200 == 0 ? made.get() : x;
            tell(all, "letter " + i, x.letter(i));
        }
    }

    private static void bits(Supplier<TagTower> made, StringBuilder all) {
        TagTower x = made.get();
        int size = x.bits(0);
        tell(all, "bits", size, x.bits(1), x.bits(2), x.bits(3));
        for (int i = 0; i < 600; i++) {
            x = i % 100 == 0 ? made.get() : x;
            tell(all, "bit " + i, x.bit(i), x.bit(size - 1 - i));
        }
    }
}
