import java.io.IOException;
import java.io.UncheckedIOException;
import java.lang.reflect.Method;
import java.lang.reflect.Modifier;
import java.nio.file.Files;
import java.nio.file.Path;
import java.util.ArrayList;
import java.util.Arrays;
import java.util.List;
import java.util.regex.Matcher;
import java.util.regex.Pattern;

/** What stands ahead of the terms, the names that calls have together, and each promise's call. */
final class AheadSentences {
    private static final int UP = 0, DOWN = 1;
    private static final int LEFT = 0, RIGHT = 1;
    private static final String[] COUNTERS = {
        "line(int op, int r, int a, int b)", "wipe()", "set(int r, int v)", "counter(int r)",
        "count(int n)", "at()", "go(int line)"
    };
    private static final String[] MACHINE = {
        "rule(int q, int s, int w, int way, int t)", "unrule(int q, int s)",
        "place(int q, int s, int m, int n)", "move(int n)", "where(int what)"
    };
    private static final String[] WORD = {
        "production(int letter, int i)", "lay()", "add(int letter)", "clear()", "letter(int i)",
        "length()", "tag(int n)", "next()", "told(int what)"
    };
    private static final String[] BITS = {
        "appendant(int turn, int k)", "spread()", "cycle(int n)", "bit(int i)", "bits(int what)",
        "gather()"
    };
    private static final String SOURCE = source();

    private AheadSentences() {
    }

    static void all() {
        whatItIs();
        face();
        groups();
        calls();
    }

    private static void whatItIs() {
        String where = "What it is";
        Sentence.holds(where, "A tower of machines, each of which does what the one above it does:",
            AheadSentences::eachDoesWhatTheOneAboveDoes);
        Sentence.holds(where, "counters that are worked by a program,",
            AheadSentences::countersByProgram);
        Sentence.holds(where, "a machine with a tape of two signs,", AheadSentences::machineWithTape);
        Sentence.holds(where,
            "a word from whose head two letters are taken while others come to its end,",
            AheadSentences::wordFromHeadToEnd);
        Sentence.holds(where, "a row of bits from whose head one is taken while rows come to its end "
            + "by turns;", AheadSentences::bitsFromHeadToEnd);
        Sentence.holds(where, "each is run by itself,", AheadSentences::eachIsRunByItself);
        Sentence.holds(where, "and laid into the one below it.", AheadSentences::laidIntoTheOneBelow);
    }

    private static void face() {
        String where = "The public face";
        Sentence.holds(where, "public final class TagTower {", () -> isInSource(
            "public final class TagTower {\n"));
        Sentence.holds(where,
            "public static final int BAD = -1, STATE = -2, FULL = -3, NONE = -9;", () -> isInSource(
            "    public static final int BAD = -1, STATE = -2, FULL = -3, NONE = -9;\n"));
        Sentence.holds(where, "public TagTower();", () -> isInSource("    public TagTower() {\n"));
        for (String call : allCalls()) {
            Sentence.holds(where, "public int " + call + ";", () -> isOfTheFace(call));
        }
    }

    private static void groups() {
        group("counters", COUNTERS);
        group("the machine", MACHINE);
        group("the word", WORD);
        group("the bits", BITS);
    }

    private static void group(String name, String[] calls) {
        StringBuilder names = new StringBuilder();
        for (String call : calls) {
            names.append(names.length() == 0 ? "`" : ", `").append(nameOf(call)).append('`');
        }
        Sentence.holds("Ahead of " + name,
            "Ahead of the calls " + names + " the interface says: ---- " + name + ".",
            () -> Due.is("the calls of the source", callsBehind("    // ---- " + name + "\n"),
                Arrays.asList(calls).toString()));
    }

    /** A promise's heading and the call that stands under it. */
    private static void calls() {
        Sentence.holds("Call 1", "A new object `TagTower()`", () -> {
            TagTower one = new TagTower();
            Due.holds("each is another one", one != new TagTower());
        });
        String[] all = allCalls();
        for (int i = 0; i < all.length; i++) {
            String call = all[i];
            Sentence.holds("Call " + (i + 2), nameOf(call) + " `int " + call + "`",
                () -> isOfTheFace(call));
        }
    }

    private static String source() {
        try {
            return Files.readString(Path.of("src/main/java/TagTower.java"));
        } catch (IOException e) {
            throw new UncheckedIOException(e);
        }
    }

    private static String[] allCalls() {
        List<String> all = new ArrayList<>();
        for (String[] group : new String[][] {COUNTERS, MACHINE, WORD, BITS}) {
            all.addAll(Arrays.asList(group));
        }
        return all.toArray(new String[0]);
    }

    private static String nameOf(String call) {
        return call.substring(0, call.indexOf('('));
    }

    private static void isInSource(String line) {
        Due.holds("the source says so", SOURCE.contains(line));
    }

    private static void isOfTheFace(String call) {
        isInSource("    public int " + call + " {\n");
        int takes = call.endsWith("()") ? 0 : call.split(", ").length;
        int found = 0;
        for (Method one : TagTower.class.getDeclaredMethods()) {
            if (one.getName().equals(nameOf(call))) {
                found++;
                Due.is("modifiers", one.getModifiers(), Modifier.PUBLIC);
                Due.holds("it answers an int", one.getReturnType() == int.class);
                Due.is("it takes", one.getParameterCount(), takes);
            }
        }
        Due.is("methods of the name", found, 1);
    }

    /** The public methods of the source from a comment on to the next such one. */
    private static String callsBehind(String comment) {
        int from = SOURCE.indexOf(comment);
        Due.holds("the source says it once", from >= 0 && SOURCE.indexOf(comment, from + 1) < 0);
        String rest = SOURCE.substring(Math.max(from, 0) + comment.length()) + "    // ----";
        List<String> all = new ArrayList<>();
        Matcher found = Pattern.compile("(?m)^    public int (.*) \\{$")
            .matcher(rest.substring(0, rest.indexOf("    // ----")));
        while (found.find()) {
            all.add(found.group(1));
        }
        return all.toString();
    }

    /** Rules of all six pairs, others for each number. */
    private static int[][] rulesOf(int number) {
        int[][] rules = new int[6][];
        int rest = number * 7919 + 12345;
        for (int pair = 0; pair < 6; pair++) {
            rest = (rest * 1103515245 + 12345) & 0x7fffffff;
            rules[pair] = new int[] {rest >> 8 & 1, rest >> 9 & 1, (rest >> 10) % 3};
        }
        return rules;
    }

    private static TagTower ruled(int[][] rules) {
        TagTower x = new TagTower();
        for (int pair = 0; pair < 6; pair++) {
            x.rule(pair / 2, pair % 2, rules[pair][0], rules[pair][1], rules[pair][2]);
        }
        return x;
    }

    private static void eachDoesWhatTheOneAboveDoes() {
        for (int number = 0; number < 120; number++) {
            TagTower x = ruled(rulesOf(number));
            x.place(number % 3, number / 3 % 2, number % 11, number % 13);
            x.lay();
            x.spread();
            for (int step = 0; step < 3; step++) {
                Due.is("move", x.move(1), 1);
                int steps = x.next();
                Due.holds("the word comes to the next place, and not to " + steps, steps > 0);
                isToldOf(x);
                cycleAll(x, 242 * steps);
                Due.is("the bits' letters", x.gather(), x.length());
                isToldOf(x);
            }
            x.unrule(x.where(0), x.where(1));
            Due.is("the machine stands still", x.where(4), 1);
            Due.is("the word stands still", x.tag(1), 0);
            Due.is("the bits stand still", x.bits(3), 1);
        }
    }

    private static void isToldOf(TagTower x) {
        for (int what = 0; what < 4; what++) {
            Due.is("told(" + what + ")", x.told(what), x.where(what));
        }
    }

    private static void cycleAll(TagTower x, int steps) {
        for (int rest = steps; rest > 0; rest -= 30000) {
            Due.is("cycle", x.cycle(Math.min(rest, 30000)), Math.min(rest, 30000));
        }
    }

    /** Counter 2 becomes counter 0 times counter 1; counter 3 keeps counter 1 meanwhile. */
    private static void countersByProgram() {
        TagTower x = new TagTower();
        x.line(DOWN, 0, 1, 24);
        x.line(DOWN, 1, 2, 4);
        x.line(UP, 2, 3, 0);
        x.line(UP, 3, 1, 0);
        x.line(DOWN, 3, 5, 0);
        x.line(UP, 1, 4, 0);
        int[][] factors = {{6, 7}, {0, 9}, {9, 0}, {1, 1}, {20, 50}};
        for (int[] one : factors) {
            x.set(0, one[0]);
            x.set(1, one[1]);
            x.set(2, 0);
            x.go(0);
            int lines = one[0] * (5 * one[1] + 3) + 1;
            Due.is("count", x.count(5000), Math.min(lines, 5000));
            Due.is("count of the rest", x.count(5000), Math.max(lines - 5000, 0));
            Due.is("at", x.at(), 24);
            Due.is("counter 0", x.counter(0), 0);
            Due.is("counter 1", x.counter(1), one[1]);
            Due.is("counter 2", x.counter(2), one[0] * one[1]);
            Due.is("counter 3", x.counter(3), 0);
        }
    }

    /** Beside a tape that is told sign by sign, with a head that goes there. */
    private static void machineWithTape() {
        for (int number = 0; number < 60; number++) {
            int[][] rules = rulesOf(number);
            TagTower x = ruled(rules);
            int[] tape = new int[200];
            int head = 100;
            int q = number % 3;
            x.place(q, 0, 0, 0);
            for (int step = 0; step < 40; step++) {
                int[] rule = rules[2 * q + tape[head]];
                tape[head] = rule[0];
                int behind = numberOf(tape, rule[1] == RIGHT ? head : -head);
                if (behind > 100000) {
                    Due.is("move without room", x.move(1), 0);
                    break;
                }
                head += rule[1] == RIGHT ? 1 : -1;
                q = rule[2];
                Due.is("move", x.move(1), 1);
                Due.is("state", x.where(0), q);
                Due.is("sign", x.where(1), tape[head]);
                Due.is("left", x.where(2), numberOf(tape, head - 1));
                Due.is("right", x.where(3), numberOf(tape, -head - 1));
            }
        }
    }

    /** The number of the signs from a cell on to the left; of -cell on to the right. */
    private static int numberOf(int[] tape, int cell) {
        int all = 0;
        for (int i = 0; i < 24; i++) {
            all += tape[cell > 0 ? cell - i : i - cell] << i;
        }
        return all;
    }

    private static void wordFromHeadToEnd() {
        TagTower x = Words.ruled("A0 x a0 x B0 x", 1, RIGHT, 2);
        String word = Letters.word(x);
        for (int step = 0; step < 14; step++) {
            String[] letters = word.split(" ", 3);
            String others = Letters.production(x, Letters.number(letters[0]));
            Due.holds("others come by " + letters[0], !others.isEmpty());
            Due.is("tag", x.tag(1), 1);
            word = Letters.word(x);
            Due.is("word", word, letters[2] + " " + others);
        }
    }

    /** The same bit brings another row at another turn; the second letter's bits bring none. */
    private static void bitsFromHeadToEnd() {
        String[] rows = {"A0=C0 x c0 x", "B0=S0", "C0=D0 E0", "E0=x A2 x", "b0=s0", "Q0=B0 x"};
        for (String row : rows) {
            int turn = Letters.number(row.substring(0, 2));
            String[] others = row.substring(3).split(" ");
            TagTower x = Words.ruled(row.substring(0, 2) + " u5", 1, RIGHT, 1);
            x.spread();
            for (int taken = 0; taken < turn; taken++) {
                Due.is("bit(0)", x.bit(0), 0);
                Due.is("cycle", x.cycle(1), 1);
                Due.is("bits", x.bits(0), 242 - taken - 1);
            }
            Due.is("bit(0)", x.bit(0), 1);
            Due.is("cycle", x.cycle(1), 1);
            Due.is("bits", x.bits(0), 242 - turn - 1 + 121 * others.length);
            for (int i = 0; i < others.length; i++) {
                int from = 242 - turn - 1 + 121 * i;
                Due.is("the row of turn " + turn, x.bit(from + Letters.number(others[i])), 1);
            }
            Due.is("to the last bit of u5", x.cycle(240 - turn), 240 - turn);
            Due.is("bit(0)", x.bit(0), 1);
            Due.is("cycle", x.cycle(1), 1);
            Due.is("no row comes", x.bits(0), 121 * others.length);
        }
    }

    /** What can be seen of each machine: the one that is run changes, and no other one. */
    private static void eachIsRunByItself() {
        TagTower x = busy();
        String[] was = seen(x);
        String[] names = {"counters", "machine", "word", "bits"};
        for (int run = 0; run < 4; run++) {
            Due.is("steps of the " + names[run], runOne(x, run), 1);
            String[] is = seen(x);
            for (int i = 0; i < 4; i++) {
                Due.is("the " + names[i] + " change when the " + names[run] + " run",
                    is[i].equals(was[i]) ? 0 : 1, i == run ? 1 : 0);
            }
            was = is;
        }
        int steps = x.next();
        Due.holds("next is a run of the word, and not " + steps, steps > 0);
        String[] is = seen(x);
        Due.is("next and the others", is[0] + is[1] + is[3], was[0] + was[1] + was[3]);
    }

    private static TagTower busy() {
        TagTower x = Words.ruled("", 1, LEFT, 1);
        x.line(UP, 2, 0, 0);
        x.place(0, 1, 2, 1);
        x.lay();
        x.spread();
        return x;
    }

    private static int runOne(TagTower x, int machine) {
        switch (machine) {
            case 0: return x.count(1);
            case 1: return x.move(1);
            case 2: return x.tag(1);
            default: return x.cycle(1);
        }
    }

    private static String[] seen(TagTower x) {
        StringBuilder all = new StringBuilder();
        for (int i = 0; i < 4; i++) {
            all.append(x.counter(i)).append(' ');
        }
        all.append(x.at()).append('|');
        for (int i = 0; i < 5; i++) {
            all.append(x.where(i)).append(' ');
        }
        all.append('|').append(Letters.word(x)).append('|');
        for (int i = 0; i < 4; i++) {
            all.append(x.bits(i)).append(' ').append(x.bit(20 + i)).append(' ');
        }
        return all.toString().split("\\|");
    }

    private static void laidIntoTheOneBelow() {
        TagTower x = new TagTower();
        x.place(1, 1, 1, 2);
        Due.is("lay", x.lay(), 10);
        Due.is("word", Letters.word(x), "A3 x a3 x B3 x b3 x b3 x");
        isToldOf(x);
        Due.is("spread", x.spread(), 1210);
        for (int i = 0; i < 10; i++) {
            Due.is("the bit of letter " + i, x.bit(121 * i + x.letter(i)), 1);
        }
        Due.is("bits that are 1", x.bits(2), 10);
        Due.is("the machine's left as it was", x.where(2), 1);
        Due.is("the word as it was", Letters.word(x), "A3 x a3 x B3 x b3 x b3 x");
        x.clear();
        Due.is("gather", x.gather(), 10);
        isToldOf(x);
    }
}
