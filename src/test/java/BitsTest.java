/** Promises 23 to 28 in ordinary runs; BitSentences has the edges. */
public final class BitsTest {
    private static final int LEFT = 0, RIGHT = 1;

    public static void main(String[] args) {
        cyclesOneTurn();
        cyclesByParts();
        turnsAreTags();
        cyclesWithinZeros();
        spreadsAnew();
        rulesLeaveTheBits();
        gathers();
        Due.end();
    }

    private static void bitsAre(TagTower x, int size, int turn, int ones, int still) {
        int[] want = {size, turn, ones, still};
        for (int what = 0; what < 4; what++) {
            Due.is("bits(" + what + ")", x.bits(what), want[what]);
        }
    }

    private static void cyclesOneTurn() {
        TagTower x = new TagTower();
        x.rule(0, 0, 0, RIGHT, 0);
        Letters.addAll(x, "A0 x B0");
        x.spread();
        bitsAre(x, 363, 0, 3, 0);
        Due.is("cycle", x.cycle(1), 1);
        bitsAre(x, 362, 1, 3, 0);
        Due.is("the one is first", x.bit(0), 1);
        Due.is("cycle", x.cycle(1), 1);
        bitsAre(x, 361 + 242, 2, 4, 0);
        Due.is("first bit", x.bit(0), 0);
        Due.is("the bit of x", x.bit(119), 1);
        Due.is("the bit of C", x.bit(361 + 9), 1);
        Due.is("the bit of the new x", x.bit(361 + 121), 1);
        Due.is("behind", x.bit(361 + 242), TagTower.NONE);
        Due.is("the rest of A", x.cycle(119), 119);
        bitsAre(x, 484, 121, 4, 0);
        Due.is("the bit of x", x.cycle(1), 1);
        bitsAre(x, 483, 122, 3, 0);
        Due.is("to the last of the turn", x.cycle(119), 119);
        bitsAre(x, 364, 241, 3, 0);
        Due.is("the last of the turn", x.cycle(1), 1);
        bitsAre(x, 363, 0, 3, 0);
        Due.is("gather", x.gather(), 3);
        Due.is("word", Letters.word(x), "B0 C0 x");
    }

    private static void cyclesByParts() {
        TagTower x = new TagTower();
        TagTower y = new TagTower();
        for (TagTower one : new TagTower[] {x, y}) {
            one.rule(0, 0, 1, RIGHT, 1);
            one.rule(1, 0, 1, LEFT, 0);
            one.place(0, 0, 3, 5);
            one.lay();
            one.spread();
        }
        int steps = 0;
        for (int part = 1; part <= 60; part++) {
            steps += part;
            Due.is("cycle of a part", x.cycle(part), part);
        }
        Due.is("cycle of all", y.cycle(steps), steps);
        for (int what = 0; what < 4; what++) {
            Due.is("bits(" + what + ")", x.bits(what), y.bits(what));
        }
        for (int i = 0; i < 400; i++) {
            Due.is("bit " + i, x.bit(i), y.bit(i));
        }
    }

    /** A whole turn of the bits is a step of the word. */
    private static void turnsAreTags() {
        TagTower x = new TagTower();
        TagTower y = new TagTower();
        for (TagTower one : new TagTower[] {x, y}) {
            one.rule(0, 0, 1, RIGHT, 1);
            one.rule(1, 1, 0, LEFT, 0);
            one.place(0, 0, 1, 3);
            one.lay();
        }
        x.spread();
        for (int step = 0; step < 41; step++) {
            Due.is("cycle", x.cycle(242), 242);
            Due.is("tag", y.tag(1), 1);
            if (step % 4 == 0) {
                Due.is("gather", x.gather() > 0 ? 1 : 0, 1);
                Due.is("word", Letters.word(x), Letters.word(y));
            }
        }
        Due.is("word", Letters.word(x), "A1 x a1 x B1 x b1 x b1 x");
    }

    private static void cyclesWithinZeros() {
        TagTower x = new TagTower();
        x.rule(2, 1, 0, RIGHT, 0);
        Letters.addAll(x, "B5 u0");
        x.spread();
        Due.is("zeros", x.cycle(60), 60);
        Due.is("zeros and the one", x.cycle(46), 46);
        bitsAre(x, 242 - 106 + 121, 106, 2, 0);
        Due.is("zeros of both letters", x.cycle(100), 100);
        bitsAre(x, 242 - 206 + 121, 206, 1, 0);
        Due.is("the one of the second", x.cycle(36), 36);
        bitsAre(x, 121, 0, 1, 1);
        Due.is("gather", x.gather(), 1);
        Due.is("word", Letters.word(x), "S5");
    }

    private static void spreadsAnew() {
        TagTower x = new TagTower();
        x.rule(0, 0, 0, RIGHT, 0);
        Letters.addAll(x, "A0 x B0 x");
        x.spread();
        Due.is("cycle", x.cycle(100), 100);
        Due.is("spread", x.spread(), 484);
        bitsAre(x, 484, 0, 4, 0);
        Due.is("bit 1", x.bit(1), 1);
    }

    private static void rulesLeaveTheBits() {
        TagTower x = new TagTower();
        x.rule(0, 0, 0, RIGHT, 0);
        Letters.addAll(x, "A0 x");
        x.spread();
        x.cycle(1);
        x.unrule(0, 0);
        bitsAre(x, 241, 1, 2, 0);
        Due.is("bits that do not stand at turn 0 go on", x.cycle(30000), 241);
        bitsAre(x, 0, 0, 0, 1);
        Due.is("gather of nothing", x.gather(), 0);
        Due.is("length", x.length(), 0);
        onesThatAreGone();
        Letters.addAll(x, "A0 x");
        x.rule(0, 0, 0, RIGHT, 0);
        x.spread();
        x.cycle(1);
        x.rule(0, 0, 1, RIGHT, 0);
        Due.is("the appendant is of the rule as it is", x.cycle(1), 1);
        bitsAre(x, 240 + 484, 2, 5, 0);
    }

    private static void onesThatAreGone() {
        TagTower x = new TagTower();
        x.rule(0, 0, 0, RIGHT, 0);
        Letters.addAll(x, "A0 x");
        x.spread();
        Due.is("cycle", x.cycle(1), 1);
        x.unrule(0, 0);
        Due.is("cycle", x.cycle(120), 120);
        bitsAre(x, 121, 121, 1, 0);
        Due.is("cycle", x.cycle(1), 1);
        bitsAre(x, 120, 122, 0, 0);
        Due.is("cycle", x.cycle(30000), 120);
    }

    private static void gathers() {
        TagTower x = new TagTower();
        Letters.addAll(x, "u5 x A0 x x");
        x.spread();
        x.clear();
        x.add(9);
        Due.is("gather", x.gather(), 5);
        Due.is("word", Letters.word(x), "u5 x A0 x x");
        bitsAre(x, 605, 0, 5, 1);
        Due.is("gather again", x.gather(), 5);
        x.add(3);
        x.clear();
        x.spread();
        x.add(3);
        Due.is("gather of nothing", x.gather(), 0);
        Due.is("length", x.length(), 0);
    }
}
