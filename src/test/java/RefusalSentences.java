import java.util.function.Supplier;
import java.util.function.ToIntFunction;

/** Terms 5 and promise 1, and the limit of calls. */
final class RefusalSentences {
    private static final int UP = 0, DOWN = 1, STOP = 2;
    private static final int LEFT = 0, RIGHT = 1;
    private static final int[][] BAD_LINES = {
        {-1, 0, 0, 0}, {3, 0, 0, 0}, {0, -1, 0, 0}, {0, 4, 0, 0}, {1, 0, -1, 0}, {1, 0, 25, 0},
        {1, 0, 0, -1}, {1, 0, 0, 25}, {2, 4, 25, 25}
    };
    private static final int[][] BAD_RULES = {
        {-1, 0, 1, 1, 1}, {3, 0, 1, 1, 1}, {0, -1, 1, 1, 1}, {0, 2, 1, 1, 1}, {0, 0, -1, 1, 1},
        {0, 0, 2, 1, 1}, {0, 0, 1, -1, 1}, {0, 0, 1, 2, 1}, {0, 0, 1, 1, -1}, {0, 0, 1, 1, 3}
    };
    private static final int[][] BAD_PLACES = {
        {-1, 0, 1, 1}, {3, 0, 1, 1}, {0, -1, 1, 1}, {0, 2, 1, 1}, {0, 0, -1, 1}, {0, 0, 100001, 1},
        {0, 0, 1, -1}, {0, 0, 1, 100001}
    };

    private RefusalSentences() {
    }

    static void all() {
        Sentence.holds("Calls", "An object is used for at most 512 calls after it has been made;",
            RefusalSentences::call512);
        Sentence.holds("Calls", "what later calls answer is free.", RefusalSentences::call513);
        Sentence.holds("Promise 1", "Nothing is told;", RefusalSentences::nothingIsTold);
        Sentence.holds("Promise 1", "the WORD, THE BITS are empty.", RefusalSentences::bothAreEmpty);
        Sentence.holds("Terms 5", "REFUSALS: BAD -1, STATE -2, FULL -3.",
            RefusalSentences::refusalsByNumber);
        Sentence.holds("Terms 5", "Of several what is told first.", RefusalSentences::toldFirst);
        Sentence.holds("Terms 5", "What is refused changes nothing.",
            RefusalSentences::refusedChangesNothing);
        Sentence.holds("Terms 5", "NONE is -9.", RefusalSentences::noneByNumber);
    }

    private static void call512() {
        TagTower x = new TagTower();
        for (int call = 1; call <= 512; call++) {
            Due.is("add by call " + call, x.add(call % 121), call);
        }
        x = new TagTower();
        for (int call = 1; call < 512; call++) {
            Due.is("go by call " + call, x.go(call % 25), (call - 1) % 25);
        }
        Due.is("at by call 512", x.at(), 511 % 25);
    }

    /** Free, but there is an answer: the call ends, and throws nothing. */
    private static void call513() {
        TagTower x = new TagTower();
        int answers = 0;
        for (int call = 1; call <= 700; call++) {
            x.add(call % 121);
            answers++;
        }
        Due.is("calls that end", answers, 700);
    }

    private static void nothingIsTold() {
        TagTower x = new TagTower();
        for (int r = 0; r < 4; r++) {
            Due.is("counter", x.counter(r), 0);
        }
        Due.is("at", x.at(), 0);
        Due.is("count", x.count(5000), 0);
        Due.is("wipe", x.wipe(), 0);
        for (int what = 0; what < 4; what++) {
            Due.is("where", x.where(what), 0);
        }
        Due.is("where(4)", x.where(4), 1);
        Due.is("move", x.move(5000), 0);
        for (int pair = 0; pair < 6; pair++) {
            Due.is("unrule", x.unrule(pair / 2, pair % 2), 0);
        }
        Due.is("what another object is told", State.difference(TagTower::new, () -> {
            TagTower fresh = new TagTower();
            full();
            notFull();
            return fresh;
        }), "");
    }

    private static void bothAreEmpty() {
        TagTower x = new TagTower();
        Due.is("length", x.length(), 0);
        Due.is("letter(0)", x.letter(0), TagTower.NONE);
        Due.is("told", x.told(0), TagTower.NONE);
        Due.is("tag", x.tag(20000), 0);
        Due.is("next", x.next(), TagTower.STATE);
        for (int what = 0; what < 4; what++) {
            Due.is("bits", x.bits(what), what == 3 ? 1 : 0);
        }
        Due.is("bit(0)", x.bit(0), TagTower.NONE);
        Due.is("cycle", x.cycle(30000), 0);
        Due.is("gather", x.gather(), 0);
        Due.is("spread", x.spread(), 0);
        Due.is("clear", x.clear(), 0);
    }

    private static void refusalsByNumber() {
        Due.is("BAD", TagTower.BAD, -1);
        Due.is("STATE", TagTower.STATE, -2);
        Due.is("FULL", TagTower.FULL, -3);
        TagTower x = full();
        Due.is("counter(4)", x.counter(4), -1);
        Due.is("next", x.next(), -2);
        Due.is("gather", x.gather(), -2);
        Due.is("line", x.line(UP, 0, 0, 0), -3);
        Due.is("lay", x.lay(), -3);
        Due.is("add", x.add(0), -3);
        Due.is("gather", manyLetters().gather(), -3);
    }

    private static void noneByNumber() {
        Due.is("NONE", TagTower.NONE, -9);
        TagTower x = new TagTower();
        Due.is("production", x.production(0, 0), -9);
        Due.is("letter", x.letter(0), -9);
        Due.is("told", x.told(0), -9);
        Due.is("appendant", x.appendant(0, 0), -9);
        Due.is("bit", x.bit(0), -9);
    }

    private static void toldFirst() {
        TagTower x = full();
        for (int[] b : BAD_LINES) {
            Due.is("line: BAD, then FULL", x.line(b[0], b[1], b[2], b[3]), TagTower.BAD);
        }
        Due.is("line: FULL alone", x.line(STOP, 0, 0, 0), TagTower.FULL);
        Due.is("add: BAD, then FULL", x.add(121), TagTower.BAD);
        Due.is("add: BAD, then FULL", x.add(-1), TagTower.BAD);
        Due.is("add: FULL alone", x.add(0), TagTower.FULL);
        x = manyLetters();
        Due.is("gather: FULL alone", x.gather(), TagTower.FULL);
        Due.is("cycle", x.cycle(1), 1);
        Due.is("gather: STATE, then FULL", x.gather(), TagTower.STATE);
        Due.is("cycle to whole letters", x.cycle(120), 120);
        Due.is("gather: STATE, then FULL", x.gather(), TagTower.STATE);
        Due.is("production: BAD, whether there is one or not", x.production(121, -1), TagTower.BAD);
        Due.is("appendant: BAD, whether there is one or not", x.appendant(242, -1), TagTower.BAD);
        x.clear();
        Due.is("told: BAD, whether there is a place or not", x.told(4), TagTower.BAD);
    }

    /** A tower with 24 lines, a word of 600 letters, bits at turn 8, and a place far too long. */
    private static TagTower full() {
        TagTower x = new TagTower();
        for (int i = 0; i < 24; i++) {
            x.line(i % 2 == 0 ? UP : DOWN, i % 4, i + 1, 24 - i);
        }
        x.set(0, 1000);
        x.set(2, 7);
        x.go(4);
        x.rule(0, 0, 1, RIGHT, 1);
        x.rule(1, 1, 0, LEFT, 2);
        x.rule(2, 0, 1, RIGHT, 0);
        Letters.addAll(x, "Q2 x u5 A0");
        x.spread();
        x.cycle(48);
        x.place(0, 0, 98, 200);
        x.lay();
        x.place(2, 1, 100000, 99999);
        return x;
    }

    /** A tower whose bits are 602 whole letters, at turn 0. */
    private static TagTower manyLetters() {
        TagTower x = Words.laid(600);
        x.rule(0, 0, 1, RIGHT, 0);
        x.spread();
        x.cycle(242);
        return x;
    }

    private static void unchanged(String call, Supplier<TagTower> made, int answer,
            ToIntFunction<TagTower> refused) {
        Due.is(call, refused.applyAsInt(made.get()), answer);
        Supplier<TagTower> asked = () -> {
            TagTower x = made.get();
            refused.applyAsInt(x);
            return x;
        };
        Due.is("what is changed by " + call, State.difference(asked, made), "");
    }

    private static void refusedChangesNothing() {
        badChangesNothing();
        badNumbersChangeNothing();
        fullChangesNothing();
        stateChangesNothing();
    }

    private static void badChangesNothing() {
        for (int[] b : BAD_LINES) {
            unchanged("line", RefusalSentences::notFull, TagTower.BAD,
                x -> x.line(b[0], b[1], b[2], b[3]));
        }
        for (int[] b : BAD_RULES) {
            unchanged("rule", RefusalSentences::full, TagTower.BAD,
                x -> x.rule(b[0], b[1], b[2], b[3], b[4]));
        }
        for (int[] b : BAD_PLACES) {
            unchanged("place", RefusalSentences::full, TagTower.BAD,
                x -> x.place(b[0], b[1], b[2], b[3]));
        }
        int[][] pairs = {{-1, 0}, {3, 0}, {0, -1}, {0, 2}};
        for (int[] b : pairs) {
            unchanged("unrule", RefusalSentences::full, TagTower.BAD, x -> x.unrule(b[0], b[1]));
        }
        int[][] sets = {{-1, 5}, {4, 5}, {0, -1}, {0, 1001}};
        for (int[] b : sets) {
            unchanged("set", RefusalSentences::full, TagTower.BAD, x -> x.set(b[0], b[1]));
        }
    }

    /** A tower with room for lines and letters, whose machines all have steps to go. */
    private static TagTower notFull() {
        TagTower x = new TagTower();
        x.line(UP, 1, 1, 0);
        x.line(DOWN, 0, 0, 1);
        x.set(0, 9);
        x.rule(0, 0, 0, RIGHT, 0);
        x.rule(0, 1, 0, RIGHT, 1);
        x.place(0, 0, 3, 12);
        x.lay();
        x.spread();
        x.cycle(100);
        return x;
    }

    private static void badNumbersChangeNothing() {
        for (int most : new int[] {0, -1, Integer.MIN_VALUE, Integer.MAX_VALUE}) {
            unchanged("count", RefusalSentences::notFull, TagTower.BAD, x -> x.count(most));
            unchanged("move", RefusalSentences::notFull, TagTower.BAD, x -> x.move(most));
            unchanged("tag", RefusalSentences::notFull, TagTower.BAD, x -> x.tag(most));
            unchanged("cycle", RefusalSentences::notFull, TagTower.BAD, x -> x.cycle(most));
        }
        unchanged("count", RefusalSentences::notFull, TagTower.BAD, x -> x.count(5001));
        unchanged("move", RefusalSentences::notFull, TagTower.BAD, x -> x.move(5001));
        unchanged("tag", RefusalSentences::notFull, TagTower.BAD, x -> x.tag(20001));
        unchanged("cycle", RefusalSentences::notFull, TagTower.BAD, x -> x.cycle(30001));
        for (int v : new int[] {-1, 1000}) {
            unchanged("counter", RefusalSentences::notFull, TagTower.BAD, x -> x.counter(v));
            unchanged("go", RefusalSentences::notFull, TagTower.BAD, x -> x.go(v));
            unchanged("where", RefusalSentences::notFull, TagTower.BAD, x -> x.where(v));
            unchanged("production", RefusalSentences::notFull, TagTower.BAD, x -> x.production(v, 0));
            unchanged("add", RefusalSentences::notFull, TagTower.BAD, x -> x.add(v));
            unchanged("told", RefusalSentences::notFull, TagTower.BAD, x -> x.told(v));
            unchanged("appendant", RefusalSentences::notFull, TagTower.BAD, x -> x.appendant(v, 0));
            unchanged("bits", RefusalSentences::notFull, TagTower.BAD, x -> x.bits(v));
        }
    }

    private static void fullChangesNothing() {
        unchanged("line", RefusalSentences::full, TagTower.FULL, x -> x.line(UP, 3, 0, 0));
        unchanged("lay", RefusalSentences::full, TagTower.FULL, TagTower::lay);
        unchanged("add", RefusalSentences::full, TagTower.FULL, x -> x.add(120));
        unchanged("gather", RefusalSentences::manyLetters, TagTower.FULL, TagTower::gather);
        unchanged("lay", () -> {
            TagTower x = notFull();
            x.place(0, 0, 299, 0);
            return x;
        }, TagTower.FULL, TagTower::lay);
    }

    private static void stateChangesNothing() {
        unchanged("gather", RefusalSentences::full, TagTower.STATE, TagTower::gather);
        unchanged("next without room", RefusalSentences::full, TagTower.STATE, TagTower::next);
        unchanged("next without letters", TagTower::new, TagTower.STATE, TagTower::next);
        unchanged("next that stands still", () -> Words.of("A0 x B0 x"), TagTower.STATE,
            TagTower::next);
        unchanged("next that comes to stand still", () -> Words.of("Q0 x q1 x x u5"),
            TagTower.STATE, TagTower::next);
        unchanged("next without an end", () -> {
            TagTower x = Words.of("A1 x");
            x.rule(0, 1, 0, RIGHT, 0);
            return x;
        }, TagTower.STATE, TagTower::next);
        unchanged("next without room later", () -> {
            TagTower x = Words.laid(598);
            x.rule(0, 0, 0, RIGHT, 0);
            return x;
        }, TagTower.STATE, TagTower::next);
    }
}
