/** Promises 1 and 23 to 28. */
public final class BitsTest {
    private static final int LEFT = 0, RIGHT = 1;

    public static void main(String[] args) {
        newObject();
        appendants();
        spreads();
        cyclesOneTurn();
        cyclesByParts();
        cycleEdges();
        turnsAreTags();
        cyclesToLimits();
        cyclesToTheVeryLimit();
        cyclesWithinZeros();
        spreadsAnew();
        standsStill();
        rulesLeaveTheBits();
        gathers();
        gathersThatAreRefused();
        Due.end();
    }

    private static void bitsAre(TagTower x, int size, int turn, int ones, int still) {
        int[] want = {size, turn, ones, still};
        for (int what = 0; what < 4; what++) {
            Due.is("bits(" + what + ")", x.bits(what), want[what]);
        }
    }

    private static void newObject() {
        TagTower x = new TagTower();
        bitsAre(x, 0, 0, 0, 1);
        Due.is("new: bit", x.bit(0), TagTower.NONE);
        Due.is("new: cycle", x.cycle(30000), 0);
        Due.is("new: gather", x.gather(), 0);
        Due.is("new: spread", x.spread(), 0);
    }

    private static void appendants() {
        TagTower x = new TagTower();
        x.rule(0, 0, 0, RIGHT, 1);
        Due.is("bad turn", x.appendant(-1, 0), TagTower.BAD);
        Due.is("bad turn", x.appendant(242, 0), TagTower.BAD);
        Due.is("bad turn ahead of none", x.appendant(242, -1), TagTower.BAD);
        Due.is("x has none", x.appendant(0, 0), TagTower.NONE);
        Due.is("turn 121", x.appendant(121, 0), TagTower.NONE);
        Due.is("turn 122", x.appendant(122, 0), TagTower.NONE);
        Due.is("turn 241", x.appendant(241, 0), TagTower.NONE);
        Due.is("turn 120", x.appendant(120, 0), TagTower.NONE);
        Due.is("Q without a rule", x.appendant(27, 25), 1);
        Due.is("bit -1", x.appendant(1, -1), TagTower.NONE);
        Due.is("bit min", x.appendant(1, Integer.MIN_VALUE), TagTower.NONE);
        Due.is("bit max", x.appendant(1, Integer.MAX_VALUE), TagTower.NONE);
        for (int k = 0; k < 242; k++) {
            Due.is("A: C x", x.appendant(1, k), k == 9 || k == 121 ? 1 : 0);
        }
        Due.is("behind C x", x.appendant(1, 242), TagTower.NONE);
        Due.is("B: S, the one", x.appendant(5, 15), 1);
        Due.is("B: S, the last", x.appendant(5, 120), 0);
        Due.is("behind S", x.appendant(5, 121), TagTower.NONE);
        Due.is("E: x A0 x, x", x.appendant(12, 0), 1);
        Due.is("E: x A0 x, A0 of state 1", x.appendant(12, 121 + 41), 1);
        Due.is("E: x A0 x, x", x.appendant(12, 242), 1);
        Due.is("E: x A0 x, the last", x.appendant(12, 362), 0);
        Due.is("behind x A0 x", x.appendant(12, 363), TagTower.NONE);
        Due.is("a: c x c x, the last", x.appendant(2, 483), 0);
        Due.is("behind c x c x", x.appendant(2, 484), TagTower.NONE);
        x.unrule(0, 0);
        Due.is("without a rule", x.appendant(1, 0), TagTower.NONE);
    }

    private static void spreads() {
        TagTower x = new TagTower();
        Letters.addAll(x, "u5 x A0");
        Due.is("spread", x.spread(), 363);
        bitsAre(x, 363, 0, 3, 1);
        for (int i = 0; i < 363; i++) {
            Due.is("bit " + i, x.bit(i), i == 120 || i == 121 || i == 243 ? 1 : 0);
        }
        Due.is("bit behind", x.bit(363), TagTower.NONE);
        Due.is("bit -1", x.bit(-1), TagTower.NONE);
        Due.is("bit max", x.bit(Integer.MAX_VALUE), TagTower.NONE);
        Due.is("bit min", x.bit(Integer.MIN_VALUE), TagTower.NONE);
        Due.is("the word is as it was", Letters.word(x), "u5 x A0");
        x.place(0, 0, 298, 0);
        x.lay();
        Due.is("the longest word", x.spread(), 72600);
        bitsAre(x, 72600, 0, 600, 1);
        Due.is("bit", x.bit(72599), 0);
        Due.is("bit of the last x", x.bit(72600 - 121), 1);
        Due.is("bit behind", x.bit(72600), TagTower.NONE);
        x.clear();
        Due.is("the bits are as they were", x.bits(0), 72600);
        Due.is("spread of nothing", x.spread(), 0);
        bitsAre(x, 0, 0, 0, 1);
    }

    private static void cyclesOneTurn() {
        TagTower x = new TagTower();
        x.rule(0, 0, 0, RIGHT, 0);
        Letters.addAll(x, "A0 x B0");
        x.spread();
        bitsAre(x, 363, 0, 3, 0);
        Due.is("cycle", x.cycle(1), 1);
        bitsAre(x, 362, 1, 3, 0);
        Due.is("the one is first", x.bit(0), 1);
        Due.is("cycle", x.cycle(1), 1);
        bitsAre(x, 361 + 242, 2, 4, 0);
        Due.is("first bit", x.bit(0), 0);
        Due.is("the bit of x", x.bit(119), 1);
        Due.is("the bit of C", x.bit(361 + 9), 1);
        Due.is("the bit of the new x", x.bit(361 + 121), 1);
        Due.is("behind", x.bit(361 + 242), TagTower.NONE);
        Due.is("the rest of A", x.cycle(119), 119);
        bitsAre(x, 484, 121, 4, 0);
        Due.is("the bit of x", x.cycle(1), 1);
        bitsAre(x, 483, 122, 3, 0);
        Due.is("to the last of the turn", x.cycle(119), 119);
        bitsAre(x, 364, 241, 3, 0);
        Due.is("the last of the turn", x.cycle(1), 1);
        bitsAre(x, 363, 0, 3, 0);
        Due.is("gather", x.gather(), 3);
        Due.is("word", Letters.word(x), "B0 C0 x");
    }

    private static void cyclesByParts() {
        TagTower x = new TagTower();
        TagTower y = new TagTower();
        for (TagTower one : new TagTower[] {x, y}) {
            one.rule(0, 0, 1, RIGHT, 1);
            one.rule(1, 0, 1, LEFT, 0);
            one.place(0, 0, 3, 5);
            one.lay();
            one.spread();
        }
        int steps = 0;
        for (int part = 1; part <= 60; part++) {
            steps += part;
            Due.is("cycle of a part", x.cycle(part), part);
        }
        Due.is("cycle of all", y.cycle(steps), steps);
        for (int what = 0; what < 4; what++) {
            Due.is("bits(" + what + ")", x.bits(what), y.bits(what));
        }
        for (int i = 0; i < 400; i++) {
            Due.is("bit " + i, x.bit(i), y.bit(i));
        }
    }

    private static void cycleEdges() {
        TagTower x = new TagTower();
        x.rule(0, 1, 0, RIGHT, 0);
        Letters.addAll(x, "A1 x");
        x.spread();
        Due.is("bad cycle", x.cycle(0), TagTower.BAD);
        Due.is("bad cycle", x.cycle(-1), TagTower.BAD);
        Due.is("bad cycle", x.cycle(30001), TagTower.BAD);
        bitsAre(x, 242, 0, 2, 0);
        Due.is("30000 at most", x.cycle(30000), 30000);
        Due.is("30000 is 123 turns and 234", x.bits(1), 234);
        Due.is("eight bits are left of the word, one letter is told behind", x.bits(0), 250);
        Due.is("bad bits", x.bits(-1), TagTower.BAD);
        Due.is("bad bits", x.bits(4), TagTower.BAD);
        Due.is("to the end of the turn", x.cycle(8), 8);
        Due.is("gather", x.gather(), 2);
        Due.is("124 turns are one more than a multiple of 3", Letters.word(x), "C1 x");
    }

    /** A whole turn of the bits is a step of the word. */
    private static void turnsAreTags() {
        TagTower x = new TagTower();
        TagTower y = new TagTower();
        for (TagTower one : new TagTower[] {x, y}) {
            one.rule(0, 0, 1, RIGHT, 1);
            one.rule(1, 1, 0, LEFT, 0);
            one.place(0, 0, 1, 3);
            one.lay();
        }
        x.spread();
        for (int step = 0; step < 41; step++) {
            Due.is("cycle", x.cycle(242), 242);
            Due.is("gather", x.gather() > 0 ? 1 : 0, 1);
            Due.is("tag", y.tag(1), 1);
            Due.is("word", Letters.word(x), Letters.word(y));
        }
        Due.is("word", Letters.word(x), "A1 x a1 x B1 x b1 x b1 x");
    }

    private static void cyclesToLimits() {
        TagTower x = new TagTower();
        x.rule(0, 0, 1, RIGHT, 0);
        x.place(0, 0, 298, 0);
        x.lay();
        x.spread();
        Due.is("29 turns and two zeros", x.cycle(30000), 29 * 242 + 2);
        bitsAre(x, 72600 + 29 * 242 - 2, 2, 658, 0);
        Due.is("the bit that is not taken", x.bit(0), 1);
        Due.is("cycle again", x.cycle(1), 0);
        bitsAre(x, 79616, 2, 658, 0);
        Due.is("the last bit", x.bit(79615), 0);
        Due.is("behind it", x.bit(79616), TagTower.NONE);
        Due.is("the turn is not 0", x.gather(), TagTower.STATE);
        Due.is("the word is as it was", x.length(), 600);
        x.unrule(0, 0);
        Due.is("an empty appendant has room", x.cycle(30000), 240);
        bitsAre(x, 79376, 0, 656, 1);
        Due.is("too many letters", x.gather(), TagTower.FULL);
    }

    /** Letters that grow by two each, then one that comes to just 80000 bits. */
    private static void cyclesToTheVeryLimit() {
        TagTower x = grownBy(29, "A5");
        Due.is("29 turns and the bits to the one", x.cycle(29 * 242 + 101), 29 * 242 + 101);
        bitsAre(x, 658 * 121 - 101, 101, 658, 0);
        Due.is("to 80000 bits", x.cycle(1), 1);
        bitsAre(x, 80000, 102, 661, 0);
        Due.is("the last bit", x.bit(79999), 0);
        Due.is("the last one", x.bit(79999 - 120), 1);
        Due.is("behind it", x.bit(80000), TagTower.NONE);
        Due.is("till it stands still", x.cycle(30000), 140);
        bitsAre(x, 660 * 121, 0, 660, 1);

        x = grownBy(30, "u4");
        Due.is("to 80001 bits", x.cycle(30000), 30 * 242 + 100);
        bitsAre(x, 660 * 121 - 100, 100, 660, 0);
        Due.is("the bit that is not taken", x.bit(0), 1);
        Due.is("cycle again", x.cycle(30000), 0);

        x = grownBy(30, "B4");
        Due.is("one letter has room", x.cycle(30000), 31 * 242);
        bitsAre(x, 659 * 121, 0, 659, 1);
    }

    /** 600 letters: some whose step brings two more, a letter, else x; laid as bits. */
    private static TagTower grownBy(int many, String last) {
        TagTower x = new TagTower();
        x.rule(2, 1, 1, RIGHT, 0);
        x.rule(2, 0, 0, RIGHT, 0);
        for (int i = 0; i < many; i++) {
            Letters.addAll(x, "a5 x");
        }
        Letters.addAll(x, last);
        for (int i = x.length(); i < 600; i++) {
            x.add(0);
        }
        x.spread();
        return x;
    }

    private static void cyclesWithinZeros() {
        TagTower x = new TagTower();
        x.rule(2, 1, 0, RIGHT, 0);
        Letters.addAll(x, "B5 u0");
        x.spread();
        Due.is("zeros", x.cycle(60), 60);
        Due.is("zeros and the one", x.cycle(46), 46);
        bitsAre(x, 242 - 106 + 121, 106, 2, 0);
        Due.is("zeros of both letters", x.cycle(100), 100);
        bitsAre(x, 242 - 206 + 121, 206, 1, 0);
        Due.is("the one of the second", x.cycle(36), 36);
        bitsAre(x, 121, 0, 1, 1);
        Due.is("gather", x.gather(), 1);
        Due.is("word", Letters.word(x), "S5");
    }

    private static void spreadsAnew() {
        TagTower x = new TagTower();
        x.rule(0, 0, 0, RIGHT, 0);
        Letters.addAll(x, "A0 x B0 x");
        x.spread();
        Due.is("cycle", x.cycle(100), 100);
        Due.is("spread", x.spread(), 484);
        bitsAre(x, 484, 0, 4, 0);
        Due.is("bit 1", x.bit(1), 1);
    }

    private static void standsStill() {
        TagTower x = new TagTower();
        x.rule(0, 0, 0, RIGHT, 0);
        x.add(1);
        x.spread();
        bitsAre(x, 121, 0, 1, 1);
        Due.is("one letter", x.cycle(30000), 0);
        x.add(1);
        x.spread();
        bitsAre(x, 242, 0, 2, 0);
        x.clear();
        Letters.addAll(x, "P0 x x");
        x.spread();
        bitsAre(x, 363, 0, 3, 1);
        Due.is("P has none", x.cycle(30000), 0);
        x.rule(0, 0, 0, LEFT, 0);
        bitsAre(x, 363, 0, 3, 0);
        Due.is("P has one now; then x has none", x.cycle(30000), 242);
        bitsAre(x, 242, 0, 2, 1);
        Due.is("gather", x.gather(), 2);
        Due.is("word", Letters.word(x), "x S0");
    }

    private static void rulesLeaveTheBits() {
        TagTower x = new TagTower();
        x.rule(0, 0, 0, RIGHT, 0);
        Letters.addAll(x, "A0 x");
        x.spread();
        x.cycle(1);
        x.unrule(0, 0);
        bitsAre(x, 241, 1, 2, 0);
        Due.is("bits that do not stand at turn 0 go on", x.cycle(30000), 241);
        bitsAre(x, 0, 0, 0, 1);
        Due.is("gather of nothing", x.gather(), 0);
        Due.is("length", x.length(), 0);
        onesThatAreGone();
        Letters.addAll(x, "A0 x");
        x.rule(0, 0, 0, RIGHT, 0);
        x.spread();
        x.cycle(1);
        x.rule(0, 0, 1, RIGHT, 0);
        Due.is("the appendant is of the rule as it is", x.cycle(1), 1);
        bitsAre(x, 240 + 484, 2, 5, 0);
    }

    private static void onesThatAreGone() {
        TagTower x = new TagTower();
        x.rule(0, 0, 0, RIGHT, 0);
        Letters.addAll(x, "A0 x");
        x.spread();
        Due.is("cycle", x.cycle(1), 1);
        x.unrule(0, 0);
        Due.is("cycle", x.cycle(120), 120);
        bitsAre(x, 121, 121, 1, 0);
        Due.is("cycle", x.cycle(1), 1);
        bitsAre(x, 120, 122, 0, 0);
        Due.is("cycle", x.cycle(30000), 120);
    }

    private static void gathers() {
        TagTower x = new TagTower();
        Letters.addAll(x, "u5 x A0 x x");
        x.spread();
        x.clear();
        x.add(9);
        Due.is("gather", x.gather(), 5);
        Due.is("word", Letters.word(x), "u5 x A0 x x");
        bitsAre(x, 605, 0, 5, 1);
        Due.is("gather again", x.gather(), 5);
        x.add(3);
        x.clear();
        x.spread();
        x.add(3);
        Due.is("gather of nothing", x.gather(), 0);
        Due.is("length", x.length(), 0);
    }

    private static void gathersThatAreRefused() {
        TagTower x = new TagTower();
        x.rule(0, 0, 1, RIGHT, 0);
        x.place(0, 0, 298, 0);
        x.lay();
        x.spread();
        Due.is("gather of 600", x.gather(), 600);
        x.clear();
        Letters.addAll(x, "x u0");
        Due.is("cycle", x.cycle(2), 2);
        Due.is("602 letters begun, not at turn 0", x.gather(), TagTower.STATE);
        Due.is("cycle", x.cycle(119), 119);
        Due.is("whole letters, not at turn 0", x.gather(), TagTower.STATE);
        Due.is("cycle", x.cycle(121), 121);
        Due.is("602 letters", x.gather(), TagTower.FULL);
        Due.is("word", Letters.word(x), "x u0");
        bitsAre(x, 72842, 0, 602, 0);
        Due.is("cycle", x.cycle(1), 1);
        Due.is("602 letters, not at turn 0", x.gather(), TagTower.STATE);
        Due.is("word", Letters.word(x), "x u0");
    }
}
