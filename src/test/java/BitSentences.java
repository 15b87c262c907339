/** Terms 4 and promises 23 to 28, sentence by sentence. */
final class BitSentences {
    private static final int LEFT = 0, RIGHT = 1;
    private static final int MIN = Integer.MIN_VALUE, MAX = Integer.MAX_VALUE;

    private BitSentences() {
    }

    static void all() {
        terms();
        appendantsAndSpreads();
        cycling();
        gathering();
    }

    private static void terms() {
        Sentence.holds("Terms 4", "THE BITS: a row of at most 80000,", BitSentences::rowOf80000);
        Sentence.holds("Terms 4", "with a TURN 0 .. 241.", BitSentences::everyTurn);
        Sentence.holds("Terms 4", "APPENDANTS 0 .. 241:", BitSentences::appendants0To241);
        Sentence.holds("Terms 4", "that of a TURN below 121 is the PRODUCTION of the LETTER of that "
            + "number, if it has one,", BitSentences::appendantsAreProductions);
        Sentence.holds("Terms 4", "each LETTER i told as 121 bits, all 0 but the one at place i;",
            BitSentences::lettersToldAsBits);
        Sentence.holds("Terms 4", "all others are empty.", BitSentences::otherAppendantsAreEmpty);
        Sentence.holds("Terms 4", "A STEP: the first bit is taken;", BitSentences::stepTakesFirst);
        Sentence.holds("Terms 4", "if it is 1, the APPENDANT of the TURN comes to the end;",
            BitSentences::stepBringsAppendant);
        Sentence.holds("Terms 4", "the TURN is 1 more (241: 0).", BitSentences::turnBeginsAgain);
        Sentence.holds("Terms 4", "It stands still at TURN 0,", BitSentences::stillAtTurn0Alone);
        Sentence.holds("Terms 4", "if there are fewer than 242 bits,", BitSentences::stillBelow242);
        Sentence.holds("Terms 4", "or the first 121 of them tell a LETTER (just one of them is 1) "
            + "without a PRODUCTION.", BitSentences::stillWithoutProduction);
        Sentence.holds("Terms 4", "The WORD is LAID as its LETTERS, each told so, with TURN 0.",
            BitSentences::wordIsLaid);
        Sentence.holds("Terms 4", "RULES that change leave the WORD and THE BITS as they are;",
            BitSentences::rulesLeaveBoth);
        Sentence.holds("Terms 4", "PRODUCTIONS, APPENDANTS are of the RULES as they are.",
            BitSentences::rulesAsTheyAre);
    }

    private static void appendantsAndSpreads() {
        Sentence.holds("Promise 23", "Bit k (0, 1, ..) of the APPENDANT of a TURN;",
            BitSentences::appendantByPlaces);
        Sentence.holds("Promise 23", "NONE: it has none such.", BitSentences::appendantHasNoneSuch);
        Sentence.holds("Promise 23", "BAD: the TURN.", BitSentences::appendantOfBadTurn);
        Sentence.holds("Promise 24", "The WORD is LAID as THE BITS:",
            BitSentences::spreadTakesTheBitsPlace);
        Sentence.holds("Promise 24", "how many.", BitSentences::spreadTellsHowMany);
        Sentence.holds("Promise 24", "FULL: above 80000.", BitSentences::spreadOfTheLongest);
    }

    private static void cycling() {
        Sentence.holds("Promise 25", "n STEPS (1 .. 30000) of THE BITS at most,",
            BitSentences::cyclesAtMostN);
        Sentence.holds("Promise 25", "till they stand still,", BitSentences::cyclesTillStill);
        Sentence.holds("Promise 25", "or would be more than 80000:", BitSentences::cyclesTill80000);
        Sentence.holds("Promise 25", "how many.", BitSentences::cycleTellsHowMany);
        Sentence.holds("Promise 25", "BAD.", BitSentences::cycleOfBadNumber);
        Sentence.holds("Promise 26", "Bit i;", BitSentences::bitsByPlaces);
        Sentence.holds("Promise 26", "NONE.", BitSentences::bitThatIsNone);
        Sentence.holds("Promise 27", "How many BITS there are (what = 0),",
            BitSentences::bitsTellHowMany);
        Sentence.holds("Promise 27", "the TURN (1),", BitSentences::bitsTellTurn);
        Sentence.holds("Promise 27", "how many of them are 1 (2),", BitSentences::bitsTellOnes);
        Sentence.holds("Promise 27", "whether they stand still (3: 1, 0).",
            BitSentences::bitsTellStill);
        Sentence.holds("Promise 27", "BAD.", BitSentences::bitsThatIsBad);
    }

    private static void gathering() {
        Sentence.holds("Promise 28", "The WORD becomes the one that would be LAID as THE BITS:",
            BitSentences::gatherTakesTheWordsPlace);
        Sentence.holds("Promise 28", "how many LETTERS.", BitSentences::gatherTellsHowMany);
        Sentence.holds("Promise 28", "STATE: there is none", BitSentences::gatherOfNoWord);
        Sentence.holds("Promise 28", "(also: the TURN is not 0);", BitSentences::gatherAtOtherTurns);
        Sentence.holds("Promise 28", "FULL: above 600.", BitSentences::gatherAbove600);
    }

    private static void bitsAre(TagTower x, int... want) {
        for (int what = 0; what < want.length; what++) {
            Due.is("bits(" + what + ")", x.bits(what), want[what]);
        }
    }

    private static void wordIs(TagTower x, String want) {
        Due.is("word", Letters.word(x), want);
    }

    /** The bits from a place on are those that tell the letters. */
    private static void bitsTell(TagTower x, int from, String letters) {
        int at = from;
        for (String name : letters.split(" ")) {
            for (int i = 0; i < 121; i++) {
                Due.is("bit " + at, x.bit(at), i == Letters.number(name) ? 1 : 0);
                at++;
            }
        }
        Due.is("bit " + at + ", behind all", x.bit(at), TagTower.NONE);
    }

    private static TagTower spread(String letters) {
        TagTower x = Words.of(letters);
        x.spread();
        return x;
    }

    private static TagTower spreadRuled(String letters, int w, int way, int t) {
        TagTower x = Words.ruled(letters, w, way, t);
        x.spread();
        return x;
    }

    private static void cycles(TagTower x, int n) {
        Due.is("cycle(" + n + ")", x.cycle(n), n);
    }

    /** 658 letters and the A of (2, 1) first, by whose step they are just 80000 bits. */
    private static TagTower comingTo80000() {
        TagTower x = Words.bitsLedBy("A5", 658);
        cycles(x, 101);
        return x;
    }

    private static void rowOf80000() {
        TagTower x = comingTo80000();
        cycles(x, 1);
        bitsAre(x, 80000, 102, 661, 0);
        Due.is("the last bit", x.bit(79999), 0);
        Due.is("the last letter is x", x.bit(79999 - 120), 1);
        Due.is("behind it", x.bit(80000), TagTower.NONE);
        cycles(x, 1);
        bitsAre(x, 79999, 103, 661, 0);
    }

    private static void everyTurn() {
        TagTower x = spread("Q0 x");
        for (int turn = 0; turn <= 241; turn++) {
            Due.is("the turn", x.bits(1), turn);
            Due.is("cycle", x.cycle(1), 1);
        }
        Due.is("the turn", x.bits(1), 0);
    }

    private static void appendants0To241() {
        TagTower x = Words.ruled("", 0, RIGHT, 0);
        for (int turn = 0; turn <= 241; turn++) {
            Due.holds("turn " + turn + " has an appendant", x.appendant(turn, 0) != TagTower.BAD);
        }
        Due.is("turn -1", x.appendant(-1, 0), TagTower.BAD);
        Due.is("turn 242", x.appendant(242, 0), TagTower.BAD);
    }

    private static void appendantsAreProductions() {
        for (int made = 0; made < 4; made++) {
            for (int letter = 0; letter <= 120; letter++) {
                TagTower x = Words.ruled("", made % 2, made / 2, made % 3);
                int size = 0;
                while (size < 5 && x.production(letter, size) != TagTower.NONE) {
                    int place = 121 * size + x.production(letter, size);
                    Due.is("the bit of letter " + size, x.appendant(letter, place), 1);
                    size++;
                }
                Due.is("the last bit is there", x.appendant(letter, 121 * size - 1) < 0 ? 0 : 1,
                    size == 0 ? 0 : 1);
                Due.is("the bit behind", x.appendant(letter, 121 * size), TagTower.NONE);
            }
        }
    }

    private static void lettersToldAsBits() {
        TagTower x = Words.ruled("", 0, RIGHT, 2);
        for (int k = 0; k < 242; k++) {
            Due.is("t5: b5 x", x.appendant(119, k), k == 106 || k == 121 ? 1 : 0);
        }
        x = Words.ruled("", 0, RIGHT, 2);
        for (int k = 0; k < 242; k++) {
            Due.is("s5: t5 u5", x.appendant(116, k), k == 119 || k == 241 ? 1 : 0);
        }
        bitsTell(spread("x u5 A0"), 0, "x u5 A0");
    }

    private static void otherAppendantsAreEmpty() {
        TagTower x = Words.ruled("", 1, RIGHT, 2);
        for (int turn = 121; turn <= 241; turn++) {
            Due.is("turn " + turn, x.appendant(turn, 0), TagTower.NONE);
        }
        TagTower none = new TagTower();
        for (int turn = 0; turn <= 120; turn++) {
            boolean isQ = turn % 20 == 7 || turn % 20 == 8;
            Due.is("turn " + turn + " without rules", none.appendant(turn, 0), isQ ? 0 : TagTower.NONE);
        }
        x = spreadRuled("B0 A0", 1, RIGHT, 2);
        cycles(x, 122);
        bitsAre(x, 241, 122, 2);
        Due.is("the bit of A at turn 122", x.bit(0), 1);
        cycles(x, 1);
        bitsAre(x, 240, 123, 1);
        x = spreadRuled("B0 u5", 1, RIGHT, 2);
        cycles(x, 241);
        Due.is("the bit of u at turn 241", x.bit(0), 1);
        cycles(x, 1);
        bitsAre(x, 121, 0, 1);
    }

    private static void stepTakesFirst() {
        TagTower x = spread("Q0 A0 x");
        cycles(x, 1);
        bitsAre(x, 362, 1, 3);
        Due.is("the bit of Q is one nearer", x.bit(6), 1);
        Due.is("where it was", x.bit(7), 0);
        Due.is("the last bit", x.bit(361), 0);
        Due.is("behind it", x.bit(362), TagTower.NONE);
        cycles(x, 6);
        bitsAre(x, 356, 7, 3);
        Due.is("the bit of Q is first", x.bit(0), 1);
    }

    private static void stepBringsAppendant() {
        TagTower x = spread("Q0 x");
        cycles(x, 7);
        bitsAre(x, 235, 7, 2);
        cycles(x, 1);
        bitsAre(x, 234 + 242, 8, 3);
        Due.is("the bit of B", x.bit(234 + 5), 1);
        Due.is("the bit of x", x.bit(234 + 121), 1);
        cycles(x, 1);
        bitsAre(x, 233 + 242, 9, 3);
        x = spreadRuled("B0 x", 1, RIGHT, 0);
        cycles(x, 5);
        x.unrule(0, 0);
        cycles(x, 1);
        bitsAre(x, 236, 6, 1);
    }

    private static void turnBeginsAgain() {
        TagTower x = spread("Q0 x Q0 x");
        cycles(x, 241);
        bitsAre(x, 484 - 241 + 242, 241, 4, 0);
        cycles(x, 1);
        bitsAre(x, 484, 0, 4, 0);
        Due.is("the bit of the second Q", x.bit(7), 1);
        cycles(x, 1);
        bitsAre(x, 483, 1, 4, 0);
        x = spread("Q0 x Q0 x");
        cycles(x, 243);
        bitsAre(x, 483, 1, 4, 0);
        Due.is("gather at turn 1", x.gather(), TagTower.STATE);
    }

    private static void stillAtTurn0Alone() {
        TagTower x = spreadRuled("B0 x", 0, RIGHT, 0);
        Due.is("at turn 0", x.bits(3), 0);
        cycles(x, 6);
        x.unrule(0, 0);
        for (int turn = 6; turn <= 241; turn++) {
            Due.is("at turn " + turn, x.bits(3), 0);
            Due.is("cycle", x.cycle(1), 1);
        }
        bitsAre(x, 121, 0, 1, 1);
        Due.is("cycle", x.cycle(1), 0);
    }

    private static void stillBelow242() {
        bitsAre(new TagTower(), 0, 0, 0, 1);
        Due.is("cycle of no bits", new TagTower().cycle(30000), 0);
        TagTower x = spread("Q0");
        bitsAre(x, 121, 0, 1, 1);
        Due.is("cycle of 121 bits", x.cycle(30000), 0);
        x = spread("Q0 x");
        bitsAre(x, 242, 0, 2, 0);
        Due.is("cycle of 242 bits", x.cycle(242), 242);
        x = spreadRuled("B0 x", 0, RIGHT, 0);
        Due.is("cycle till 121 bits are left", x.cycle(30000), 242);
        bitsAre(x, 121, 0, 1, 1);
        Due.is("cycle again", x.cycle(1), 0);
    }

    private static void stillWithoutProduction() {
        for (String first : new String[] {"x", "A0", "u5", "P3"}) {
            TagTower x = spread(first + " Q0 Q0");
            bitsAre(x, 363, 0, 3, 1);
            Due.is("cycle of " + first, x.cycle(30000), 0);
            bitsAre(x, 363, 0, 3, 1);
        }
        TagTower x = spread("P3 Q0 Q0");
        x.rule(1, 1, 0, RIGHT, 0);
        Due.is("P by a rule to the right", x.bits(3), 1);
        x.rule(1, 1, 0, LEFT, 0);
        Due.is("P by a rule to the left", x.bits(3), 0);
        cycles(x, 242);
        bitsAre(x, 242, 0, 2, 0);
    }

    private static void wordIsLaid() {
        TagTower x = Words.of("u5 x A0");
        Due.is("spread", x.spread(), 363);
        bitsAre(x, 363, 0, 3);
        bitsTell(x, 0, "u5 x A0");
        x = spread("Q0 x");
        cycles(x, 100);
        x.spread();
        bitsAre(x, 242, 0, 2, 0);
        bitsTell(x, 0, "Q0 x");
    }

    private static void rulesLeaveBoth() {
        TagTower x = spreadRuled("A0 x B0", 1, RIGHT, 0);
        x.rule(0, 0, 0, LEFT, 2);
        x.unrule(1, 1);
        wordIs(x, "A0 x B0");
        bitsTell(x, 0, "A0 x B0");
        x = spreadRuled("A0 x B0", 1, RIGHT, 0);
        cycles(x, 2);
        bitsAre(x, 361 + 484, 2, 6, 0);
        x.rule(0, 0, 0, LEFT, 2);
        bitsAre(x, 361 + 484, 2, 6, 0);
        x.unrule(0, 0);
        bitsAre(x, 361 + 484, 2, 6, 0);
        bitsTell(x, 361, "C0 x c0 x");
    }

    private static void rulesAsTheyAre() {
        TagTower x = spread("A0 x");
        Due.is("no rule: the word", x.tag(1), 0);
        Due.is("no rule: the bits", x.cycle(1), 0);
        x.rule(0, 0, 0, RIGHT, 0);
        cycles(x, 1);
        x.rule(0, 0, 1, RIGHT, 0);
        Due.is("the appendant is of the later rule", x.appendant(1, 483), 0);
        cycles(x, 1);
        bitsAre(x, 240 + 484, 2, 5, 0);
        x.rule(0, 0, 0, LEFT, 0);
        Due.is("the production is of the last rule", x.tag(1), 1);
        wordIs(x, "P0 x");
        x.unrule(0, 0);
        Due.is("no rule: the word", x.tag(1), 0);
        Due.is("no rule: the appendant", x.appendant(1, 0), TagTower.NONE);
        cycles(x, 240);
        bitsAre(x, 484, 0, 4, 1);
    }

    private static void appendantByPlaces() {
        TagTower x = new TagTower();
        x.rule(0, 0, 0, RIGHT, 1);
        for (int k = 0; k < 363; k++) {
            boolean one = k == 0 || k == 121 + 41 || k == 242;
            Due.is("E: x A0 x, bit " + k, x.appendant(12, k), one ? 1 : 0);
        }
    }

    private static void appendantHasNoneSuch() {
        TagTower x = new TagTower();
        x.rule(2, 1, 1, RIGHT, 2);
        int[] turn = {105, 115, 112, 101};
        for (int size = 1; size <= 4; size++) {
            int t = turn[size - 1];
            for (int k : new int[] {-1, 121 * size, 121 * size + 1, MIN, MAX}) {
                Due.is("appendant(" + t + ", " + k + ")", x.appendant(t, k), TagTower.NONE);
            }
            Due.holds("the last bit is there", x.appendant(t, 121 * size - 1) >= 0);
        }
        for (int t : new int[] {0, 1, 120, 121, 241}) {
            boolean ruled = t == 120;
            Due.is("turn " + t, x.appendant(t, 0), ruled ? 0 : TagTower.NONE);
            for (int k : new int[] {-1, 242, MIN, MAX}) {
                Due.is("appendant(" + t + ", " + k + ")", x.appendant(t, k), TagTower.NONE);
            }
        }
    }

    private static void appendantOfBadTurn() {
        TagTower x = Words.ruled("", 0, RIGHT, 0);
        for (int k : new int[] {-1, 0, 1, 121, MIN, MAX}) {
            Due.badBeside("appendant of a turn, k = " + k, 0, 241, turn -> x.appendant(turn, k));
        }
        Due.is("turn 0", x.appendant(0, 0), TagTower.NONE);
        Due.is("turn 241", x.appendant(241, 0), TagTower.NONE);
    }

    private static void spreadTakesTheBitsPlace() {
        TagTower x = spread("Q0 x A0 x");
        cycles(x, 130);
        x.clear();
        Letters.addAll(x, "u5");
        Due.is("spread of fewer", x.spread(), 121);
        bitsAre(x, 121, 0, 1, 1);
        bitsTell(x, 0, "u5");
        wordIs(x, "u5");
        x.clear();
        bitsAre(x, 121, 0, 1, 1);
        Due.is("spread of no letters", x.spread(), 0);
        bitsAre(x, 0, 0, 0, 1);
        Due.is("bit(0)", x.bit(0), TagTower.NONE);
        x = Words.bitsLedBy("C0", 660);
        x.clear();
        Letters.addAll(x, "A0 x");
        Due.is("spread ahead of many bits", x.spread(), 242);
        bitsTell(x, 0, "A0 x");
    }

    private static void spreadTellsHowMany() {
        TagTower x = new TagTower();
        Due.is("spread of no letters", x.spread(), 0);
        for (int letters = 1; letters <= 5; letters++) {
            x.add(120);
            Due.is("spread", x.spread(), 121 * letters);
            Due.is("spread again", x.spread(), 121 * letters);
            Due.is("bits", x.bits(0), 121 * letters);
        }
        Due.is("spread of 599", Words.ledBy("C0", 599).spread(), 599 * 121);
    }

    /** No word has letters for more than 80000 bits: the longest one is taken, too. */
    private static void spreadOfTheLongest() {
        TagTower x = Words.laid(600);
        Due.is("spread of 600", x.spread(), 72600);
        bitsAre(x, 72600, 0, 600, 1);
        Due.is("the last bit", x.bit(72599), 0);
        Due.is("the last letter is x", x.bit(72600 - 121), 1);
        Due.is("behind it", x.bit(72600), TagTower.NONE);
        x = Words.ledBy("u5", 600);
        Due.is("spread of 600", x.spread(), 72600);
        Due.is("the bit of u", x.bit(120), 1);
    }

    /** A1 x, C1 x, D1 E1, and so on without an end. */
    private static TagTower endless() {
        TagTower x = Words.of("A1 x");
        x.rule(0, 1, 0, RIGHT, 0);
        x.spread();
        return x;
    }

    private static void cyclesAtMostN() {
        for (int n : new int[] {1, 2, 21, 22, 241, 242, 243, 29999, 30000}) {
            TagTower x = endless();
            Due.is("cycle(" + n + ")", x.cycle(n), n);
            Due.is("the turn", x.bits(1), n % 242);
        }
        TagTower x = endless();
        int steps = 0;
        for (int n = 1; n <= 60; n++) {
            steps += n;
            Due.is("cycle by parts", x.cycle(n), n);
            Due.is("the turn", x.bits(1), steps % 242);
        }
    }

    private static void cyclesTillStill() {
        for (int n : new int[] {483, 484, 485, 30000}) {
            TagTower x = spread("Q0 x q1 x A0 x");
            Due.is("two letters have one: cycle(" + n + ")", x.cycle(n), Math.min(n, 484));
        }
        TagTower x = spread("x Q0 Q0");
        Due.is("the first one has none", x.cycle(30000), 0);
        x = spreadRuled("B0 x", 0, RIGHT, 0);
        Due.is("one letter is left", x.cycle(30000), 242);
        Due.is("no bits", new TagTower().cycle(30000), 0);
    }

    private static void cyclesTill80000() {
        TagTower x = comingTo80000();
        Due.is("to 80000 and on", x.cycle(141), 141);
        x = Words.bitsLedBy("u4", 660);
        Due.is("to the bit that would bring 80001", x.cycle(30000), 100);
        bitsAre(x, 660 * 121 - 100, 100, 660, 0);
        Due.is("it is not taken", x.bit(0), 1);
        Due.is("cycle again", x.cycle(1), 0);
        bitsAre(x, 660 * 121 - 100, 100, 660, 0);
        x = Words.bitsLedBy("a5", 658);
        cycles(x, 103);
        bitsAre(x, 79999, 103, 661, 0);
        x = Words.bitsLedBy("B4", 660);
        Due.is("one letter more has room", x.cycle(242), 242);
        bitsAre(x, 659 * 121, 0, 659);
        x = Words.bitsLedBy("P5", 660);
        Due.is("a letter without one", x.cycle(30000), 0);
        bitsAre(x, 660 * 121, 0, 660, 1);
    }

    private static void cycleTellsHowMany() {
        TagTower x = spread("Q0 x A0 x");
        Due.is("cycle(200)", x.cycle(200), 200);
        Due.is("cycle(200) of those that are left", x.cycle(200), 42);
        Due.is("cycle(200) of none", x.cycle(200), 0);
        bitsAre(x, 484, 0, 4, 1);
    }

    private static void cycleOfBadNumber() {
        TagTower x = endless();
        Due.is("cycle(0)", x.cycle(0), TagTower.BAD);
        Due.badBeside("cycle", 1, 30000, x::cycle);
        bitsAre(x, 242, 0, 2, 0);
        Due.takenOn("cycle", 1, 30000, x::cycle);
        TagTower still = new TagTower();
        Due.badBeside("cycle of no bits", 1, 30000, still::cycle);
    }

    private static void bitsByPlaces() {
        bitsTell(spread("Q0 x u5"), 0, "Q0 x u5");
        TagTower x = spread("Q0 x");
        cycles(x, 8);
        bitsTell(x, 234, "B0 x");
        for (int i = 0; i < 113; i++) {
            Due.is("bit " + i + " of the rest of Q", x.bit(i), 0);
        }
        Due.is("the bit of x", x.bit(113), 1);
    }

    private static void bitThatIsNone() {
        noBits(new TagTower(), 0);
        noBits(spread("u5"), 121);
        TagTower x = spread("Q0 x");
        noBits(x, 242);
        cycles(x, 7);
        noBits(x, 235);
        cycles(x, 1);
        noBits(x, 476);
        TagTower y = Words.laid(600);
        y.spread();
        noBits(y, 72600);
        y.clear();
        y.spread();
        noBits(y, 0);
    }

    private static void noBits(TagTower x, int size) {
        for (int i : new int[] {-1, size, size + 1, size + 121, MIN, MAX}) {
            Due.is("bit(" + i + ") of " + size, x.bit(i), TagTower.NONE);
        }
        Due.is("the last one is there", x.bit(size - 1) >= 0 ? 1 : 0, size > 0 ? 1 : 0);
    }

    private static void bitsTellHowMany() {
        TagTower x = new TagTower();
        Due.is("of a new object", x.bits(0), 0);
        Letters.addAll(x, "Q0 x");
        Due.is("of a word that is not spread", x.bits(0), 0);
        x.spread();
        for (int steps = 0; steps <= 242; steps++) {
            Due.is("bits", x.bits(0), 242 - steps + (steps > 7 ? 242 : 0));
            x.cycle(1);
        }
    }

    private static void bitsTellTurn() {
        TagTower x = new TagTower();
        Due.is("of a new object", x.bits(1), 0);
        Letters.addAll(x, "Q0 x Q0 x Q0 x");
        x.spread();
        int[] steps = {1, 120, 1, 119, 1, 1, 240};
        int[] turns = {1, 121, 122, 241, 0, 1, 241};
        for (int i = 0; i < steps.length; i++) {
            cycles(x, steps[i]);
            Due.is("the turn", x.bits(1), turns[i]);
        }
        x.spread();
        Due.is("spread anew", x.bits(1), 0);
    }

    private static void bitsTellOnes() {
        Due.is("of a new object", new TagTower().bits(2), 0);
        onesAt(spreadRuled("B0 u5", 0, RIGHT, 0), new int[] {5, 6, 121, 240, 241}, 2, 2, 2, 2, 2);
        TagTower x = spreadRuled("B0 x", 0, RIGHT, 0);
        cycles(x, 1);
        x.unrule(0, 0);
        onesAt(x, new int[] {5, 6, 121, 122, 241}, 2, 1, 1, 0, 0);
        Due.is("no ones: they go on to turn 0", x.cycle(30000), 1);
        bitsAre(x, 0, 0, 0, 1);
        x = Words.laid(600);
        x.spread();
        Due.is("of 600 letters", x.bits(2), 600);
    }

    private static void onesAt(TagTower x, int[] turns, int... ones) {
        for (int i = 0; i < turns.length; i++) {
            cycles(x, turns[i] - x.bits(1));
            Due.is("ones at turn " + turns[i], x.bits(2), ones[i]);
        }
    }

    private static void bitsTellStill() {
        Due.is("of a new object", new TagTower().bits(3), 1);
        Due.is("one letter", spread("Q0").bits(3), 1);
        Due.is("two letters", spread("Q0 x").bits(3), 0);
        Due.is("two letters without one", spread("A0 x").bits(3), 1);
        TagTower x = Words.bitsLedBy("u4", 660);
        Due.is("a step that will have no room", x.bits(3), 0);
        x.cycle(30000);
        Due.is("a step that has no room", x.bits(3), 0);
        x = spreadRuled("B0 x", 0, RIGHT, 0);
        cycles(x, 241);
        Due.is("at turn 241", x.bits(3), 0);
        cycles(x, 1);
        Due.is("at turn 0", x.bits(3), 1);
    }

    private static void bitsThatIsBad() {
        TagTower x = spread("Q0 x");
        Due.badBeside("bits", 0, 3, x::bits);
        Due.takenOn("bits", 0, 3, x::bits);
        TagTower empty = new TagTower();
        Due.badBeside("bits of none", 0, 3, empty::bits);
    }

    private static void gatherTakesTheWordsPlace() {
        TagTower x = spread("u5 x A0");
        x.clear();
        Letters.addAll(x, "B0 B0 B0 B0 B0");
        Due.is("gather", x.gather(), 3);
        wordIs(x, "u5 x A0");
        bitsAre(x, 363, 0, 3, 1);
        bitsTell(x, 0, "u5 x A0");
        x = spread("Q0 x A0");
        cycles(x, 242);
        Due.is("gather after a whole turn", x.gather(), 3);
        wordIs(x, "A0 B0 x");
        x.clear();
        bitsAre(x, 363, 0, 3, 1);
        Due.is("gather again", x.gather(), 3);
    }

    private static void gatherTellsHowMany() {
        TagTower x = Words.of("A0 x");
        Due.is("gather of no bits", x.gather(), 0);
        Due.is("length", x.length(), 0);
        x.add(120);
        x.spread();
        Due.is("gather of one letter", x.gather(), 1);
        x = Words.laid(600);
        x.spread();
        x.clear();
        Due.is("gather of 600", x.gather(), 600);
        Due.is("length", x.length(), 600);
        Due.is("the last letter", x.letter(599), 0);
    }

    /** The bits tell whole letters at turn 0 alone: at each other turn there is no such word. */
    private static void gatherOfNoWord() {
        TagTower x = spread("Q0 x");
        cycles(x, 1);
        Due.is("of 241 bits", x.gather(), TagTower.STATE);
        wordIs(x, "Q0 x");
        bitsAre(x, 241, 1, 2, 0);
        cycles(x, 6);
        Due.is("of 235 bits", x.gather(), TagTower.STATE);
        cycles(x, 1);
        Due.is("of 476 bits", x.gather(), TagTower.STATE);
        wordIs(x, "Q0 x");
        cycles(x, 234);
        Due.is("of 242 bits", x.gather(), 2);
        wordIs(x, "B0 x");
    }

    private static void gatherAtOtherTurns() {
        TagTower x = spread("Q0 x");
        Due.is("at turn 0", x.gather(), 2);
        for (int turn = 1; turn <= 241; turn++) {
            x.cycle(1);
            Due.is("at turn " + turn, x.gather(), TagTower.STATE);
        }
        wordIs(x, "Q0 x");
        x.cycle(1);
        Due.is("at turn 0", x.gather(), 2);
        wordIs(x, "B0 x");
        x = spread("Q0 x A0 x");
        cycles(x, 121);
        bitsAre(x, 605, 121, 5, 0);
        Due.is("at turn 121 the bits tell letters: gather", x.gather(), TagTower.STATE);
        wordIs(x, "Q0 x A0 x");
    }

    private static void gatherAbove600() {
        for (int letters : new int[] {601, 602, 660}) {
            TagTower x = Words.bitsLedBy("C0", letters);
            x.clear();
            Letters.addAll(x, "u5 x");
            Due.is("gather of " + letters, x.gather(), TagTower.FULL);
            wordIs(x, "u5 x");
            bitsAre(x, 121 * letters, 0, letters, 0);
        }
        TagTower x = Words.bitsLedBy("B0", 601);
        Due.is("gather of 601", x.gather(), TagTower.FULL);
        cycles(x, 242);
        Due.is("gather of 600", x.gather(), 600);
        Due.is("length", x.length(), 600);
        Due.is("the last letter", x.letter(599), Letters.number("S0"));
        x = Words.bitsLedBy("C0", 600);
        x.clear();
        Due.is("gather of 600", x.gather(), 600);
        Due.is("the first letter", x.letter(0), 9);
    }
}
