/** Terms 3 and promises 14 to 22, sentence by sentence. */
final class WordSentences {
    private static final int LEFT = 0, RIGHT = 1;
    private static final int MIN = Integer.MIN_VALUE, MAX = Integer.MAX_VALUE;

    private WordSentences() {
    }

    static void all() {
        letters();
        productions();
        layingAndAdding();
        stepping();
        places();
    }

    private static void letters() {
        Sentence.holds("Terms 3", "THE WORD: a row of LETTERS 0 .. 120,", WordSentences::letters0To120);
        Sentence.holds("Terms 3", "at most 600.", WordSentences::wordOf600);
        Sentence.holds("Terms 3", "LETTER 0 is x.", WordSentences::letterX);
        Sentence.holds("Terms 3", "A PAIR p = 2 q + s (0 .. 5) has 20 LETTERS, 20 p + 1 and on: "
            + "A a P p B b Q q C c D E d e S s T U t u (in this order).", WordSentences::lettersOfPairs);
        Sentence.holds("Terms 3", "A STEP: of a WORD of two LETTERS or more",
            WordSentences::stepOfTwoLetters);
        Sentence.holds("Terms 3", "whose first one has a PRODUCTION", WordSentences::stepOfFirst);
        Sentence.holds("Terms 3",
            "both first LETTERS are taken, and the PRODUCTION of the first comes to the end;",
            WordSentences::stepTakesTwo);
        Sentence.holds("Terms 3", "else it stands still.", WordSentences::wordStandsStill);
        Sentence.holds("Terms 3", "THE MACHINE's place is LAID as the WORD A x, m times a x, B x, "
            + "n times b x, of its PAIR.", WordSentences::placeIsLaid);
    }

    private static void productions() {
        Sentence.holds("Terms 3", "PRODUCTIONS of the LETTERS of a PAIR with a RULE (w, way, t), "
            + "LETTERS of the PAIR 2 t + 1 with a 1 behind, of 2 t with a 0 behind:",
            WordSentences::pairsOfNextState);
        both("C: D E. c: d e. S: T U. s: t u.");
        Sentence.holds("Terms 3", "both ways:", WordSentences::bothWaysAlike);
        Sentence.holds("Terms 3", "To the right:", () -> producesX("D3", RIGHT, "A1 x"));
        Sentence.holds("Terms 3", "A: C x, and c x, if w is 1.", () -> wMatters("A", RIGHT));
        oneWay(RIGHT, "a: c x c x. B: S. b: s. D: A1 x. E: x A0 x. d: a1 x. e: a0 x. "
            + "T: B1 x. U: B0 x. t: b1 x. u: b0 x.");
        Sentence.holds("Terms 3", "To the left:", () -> producesX("D3", LEFT, "Q1 x"));
        oneWay(LEFT, "A: P x. a: p x. P: S. p: s.");
        Sentence.holds("Terms 3", "B: C x, and c x, if w is 1.", () -> wMatters("B", LEFT));
        oneWay(LEFT, "b: c x c x. D: Q1 x. E: x Q0 x. d: q1 x. e: q0 x. "
            + "T: A1 x. U: A0 x. t: a1 x. u: a0 x.");
        Sentence.holds("Terms 3", "Of each PAIR, with a RULE or not: Q: B x. q: b x.",
            WordSentences::rulesOrNot);
        Sentence.holds("Terms 3", "All others have none (of a PAIR to the right P, p; x).",
            WordSentences::othersHaveNone);
        Sentence.holds("Promise 14", "LETTER i (0, 1, ..) of the PRODUCTION of a LETTER;",
            WordSentences::productionByPlaces);
        Sentence.holds("Promise 14", "NONE: it has none such,", WordSentences::productionHasNoneSuch);
        Sentence.holds("Promise 14", "or none at all.", WordSentences::productionOfNone);
        Sentence.holds("Promise 14", "BAD: the LETTER.", WordSentences::productionOfBadLetter);
    }

    private static void layingAndAdding() {
        Sentence.holds("Promise 15", "THE MACHINE's place is LAID as the WORD:",
            WordSentences::layTakesTheWordsPlace);
        Sentence.holds("Promise 15", "how many LETTERS.", WordSentences::layTellsHowMany);
        Sentence.holds("Promise 15", "FULL: above 600.", WordSentences::layAbove600);
        Sentence.holds("Promise 16", "A LETTER comes to the end of the WORD: how many.",
            WordSentences::addTellsHowMany);
        Sentence.holds("Promise 16", "BAD;", WordSentences::addOfBadLetter);
        Sentence.holds("Promise 16", "FULL.", WordSentences::addToFullWord);
        Sentence.holds("Promise 17", "The WORD is empty:", WordSentences::clearEmpties);
        Sentence.holds("Promise 17", "how many LETTERS it had.", WordSentences::clearTellsHowMany);
        Sentence.holds("Promise 18", "LETTER i of the WORD;", WordSentences::lettersByPlaces);
        Sentence.holds("Promise 18", "NONE.", WordSentences::letterThatIsNone);
        Sentence.holds("Promise 19", "How many LETTERS the WORD has.", WordSentences::lengths);
    }

    private static void stepping() {
        Sentence.holds("Promise 20", "n STEPS (1 .. 20000) of the WORD at most,",
            WordSentences::tagsAtMostN);
        Sentence.holds("Promise 20", "till it stands still,", WordSentences::tagsTillStill);
        Sentence.holds("Promise 20", "or would have more than 600 LETTERS:",
            WordSentences::tagsTill600);
        Sentence.holds("Promise 20", "how many.", WordSentences::tagTellsHowMany);
        Sentence.holds("Promise 20", "BAD.", WordSentences::tagOfBadNumber);
    }

    private static void places() {
        Sentence.holds("Promise 21", "STEPS of the WORD, one at least,",
            WordSentences::nextTakesAStep);
        Sentence.holds("Promise 21", "till it is one that a place of THE MACHINE would be LAID as",
            WordSentences::nextComesToPlace);
        Sentence.holds("Promise 21", "(with m, n of 0 and more),", WordSentences::nextOfNoNumbers);
        Sentence.holds("Promise 21", "20000 at most:", WordSentences::nextOf20000);
        Sentence.holds("Promise 21", "how many.", WordSentences::nextTellsHowMany);
        Sentence.holds("Promise 21", "STATE: it stands still,", WordSentences::nextStandsStill);
        Sentence.holds("Promise 21", "or comes to,", WordSentences::nextComesToStandStill);
        Sentence.holds("Promise 21", "or would have more than 600 LETTERS,",
            WordSentences::nextAbove600);
        Sentence.holds("Promise 21", "or all are done,", WordSentences::nextOfAllSteps);
        Sentence.holds("Promise 21", "ahead of that", WordSentences::nextToPlaceThatStandsStill);
        Sentence.holds("Promise 21", "(then the WORD is as it was).", WordSentences::nextGoesBack);
        Sentence.holds("Promise 22", "If a place of THE MACHINE would be LAID as the WORD, "
            + "of that: q (what = 0), s (1), m (2), n (3);", WordSentences::toldOfPlaces);
        Sentence.holds("Promise 22", "NONE.", WordSentences::toldOfNoPlace);
        Sentence.holds("Promise 22", "BAD.", WordSentences::toldThatIsBad);
    }

    private static void wordIs(TagTower x, String want) {
        Due.is("word", Letters.word(x), want);
    }

    private static void letters0To120() {
        TagTower x = new TagTower();
        for (int letter = 0; letter <= 120; letter++) {
            Due.is("add", x.add(letter), letter + 1);
            Due.is("letter", x.letter(letter), letter);
        }
        Due.is("add(121)", x.add(121), TagTower.BAD);
        Due.is("add(-1)", x.add(-1), TagTower.BAD);
        Due.is("length", x.length(), 121);
    }

    private static void wordOf600() {
        TagTower x = Words.laid(598);
        Due.is("add", x.add(1), 599);
        Due.is("add", x.add(2), 600);
        Due.is("add", x.add(3), TagTower.FULL);
        Due.is("length", x.length(), 600);
        Due.is("the last letter", x.letter(599), 2);
    }

    private static void letterX() {
        TagTower x = new TagTower();
        x.lay();
        Due.is("A", x.letter(0), 1);
        Due.is("x", x.letter(1), 0);
        x.clear();
        x.add(27);
        x.add(0);
        Due.is("tag: Q x to B x", x.tag(1), 1);
        Due.is("B", x.letter(0), 25);
        Due.is("x", x.letter(1), 0);
    }

    /** That the letters have these numbers: by the productions, which the document tells by signs. */
    private static void lettersOfPairs() {
        for (int pair = 0; pair < 6; pair++) {
            TagTower x = new TagTower();
            x.place(pair / 2, pair % 2, 1, 1);
            x.lay();
            int[] laid = {1, 0, 2, 0, 5, 0, 6, 0};
            for (int i = 0; i < laid.length; i++) {
                int want = laid[i] == 0 ? 0 : 20 * pair + laid[i];
                Due.is("letter " + i + " of the pair " + pair, x.letter(i), want);
            }
            x.rule(pair / 2, pair % 2, 0, LEFT, 0);
            int[] first = {3, 4, 15, 16, 9, 10, 5, 6, 11, 13};
            for (int i = 0; i < first.length; i++) {
                Due.is("production of the letter " + (i + 1), x.production(20 * pair + i + 1, 0),
                    20 * pair + first[i]);
            }
            Due.is("C: E", x.production(20 * pair + 9, 1), 20 * pair + 12);
            Due.is("c: e", x.production(20 * pair + 10, 1), 20 * pair + 14);
            Due.is("S: T", x.production(20 * pair + 15, 0), 20 * pair + 17);
            Due.is("S: U", x.production(20 * pair + 15, 1), 20 * pair + 18);
            Due.is("s: t", x.production(20 * pair + 16, 0), 20 * pair + 19);
            Due.is("s: u", x.production(20 * pair + 16, 1), 20 * pair + 20);
            Due.is("u, the last: a0 x", x.production(20 * pair + 20, 0), 2);
        }
    }

    private static void stepOfTwoLetters() {
        TagTower x = new TagTower();
        Due.is("tag of no letters", x.tag(1), 0);
        Letters.addAll(x, "Q0");
        Due.is("tag of one letter", x.tag(1), 0);
        wordIs(x, "Q0");
        x.add(0);
        Due.is("tag of two letters", x.tag(1), 1);
        wordIs(x, "B0 x");
    }

    private static void stepOfFirst() {
        TagTower x = Words.of("A0 Q0 Q0");
        Due.is("the first one has none", x.tag(1), 0);
        wordIs(x, "A0 Q0 Q0");
        x.clear();
        Letters.addAll(x, "Q0 A0 A0");
        Due.is("the first one has one", x.tag(1), 1);
        wordIs(x, "A0 B0 x");
        x.rule(0, 0, 0, RIGHT, 0);
        Due.is("by a rule it has one now", x.tag(1), 1);
        wordIs(x, "x C0 x");
    }

    private static void stepTakesTwo() {
        TagTower x = Words.of("q5 u3 A1");
        Due.is("tag", x.tag(1), 1);
        wordIs(x, "A1 b5 x");
        x = Words.ruled("a5 u3 A1 B1", 0, RIGHT, 0);
        Due.is("tag", x.tag(1), 1);
        wordIs(x, "A1 B1 c5 x c5 x");
        x = Words.ruled("B3 x", 0, RIGHT, 0);
        Due.is("tag", x.tag(1), 1);
        wordIs(x, "S3");
    }

    private static void wordStandsStill() {
        for (String word : new String[] {"x", "x x", "x Q0 Q0", "Q0", "A0 x", "u5 Q5"}) {
            TagTower x = Words.of(word);
            Due.is("tag of " + word, x.tag(20000), 0);
            wordIs(x, word);
        }
        Due.is("tag of nothing", new TagTower().tag(20000), 0);
    }

    private static void placeIsLaid() {
        for (int pair = 0; pair < 6; pair++) {
            for (int m = 0; m < 3; m++) {
                for (int n = 0; n < 3; n++) {
                    TagTower x = new TagTower();
                    x.place(pair / 2, pair % 2, m, n);
                    x.lay();
                    String want = "A x" + " a x".repeat(m) + " B x" + " b x".repeat(n);
                    wordIs(x, want.replaceAll("([AaBb])", "$1" + pair));
                }
            }
        }
    }

    private static void pairsOfNextState() {
        for (int pair = 0; pair < 6; pair++) {
            for (int t = 0; t < 3; t++) {
                TagTower x = new TagTower();
                x.rule(pair / 2, pair % 2, 1, RIGHT, t);
                Due.is("D: A1", x.production(20 * pair + 11, 0), 20 * (2 * t + 1) + 1);
                Due.is("E: A0", x.production(20 * pair + 12, 1), 20 * (2 * t) + 1);
                x.rule(pair / 2, pair % 2, 1, LEFT, t);
                Due.is("D: Q1", x.production(20 * pair + 11, 0), 20 * (2 * t + 1) + 7);
                Due.is("E: Q0", x.production(20 * pair + 12, 1), 20 * (2 * t) + 7);
            }
        }
    }

    private static void both(String rules) {
        oneWay(LEFT, rules);
        oneWay(RIGHT, rules);
    }

    /** Each production of the text, for every pair, w and t, with the pairs put in. */
    private static void oneWay(int way, String rules) {
        for (String rule : rules.split("\\. ?")) {
            Sentence.holds("Terms 3", rule + ".", () -> produces(way, rule));
        }
    }

    private static void produces(int way, String rule) {
        String sign = rule.substring(0, 1);
        for (int made = 0; made < 6 * 2 * 3; made++) {
            int pair = made % 6;
            int w = made / 6 % 2;
            int t = made / 12;
            TagTower x = new TagTower();
            x.rule(pair / 2, pair % 2, w, way, t);
            Due.is(sign + pair + " by w " + w + ", t " + t,
                Letters.production(x, Letters.number(sign + pair)),
                withPairs(rule.substring(3), pair, t));
        }
    }

    private static String withPairs(String letters, int pair, int t) {
        StringBuilder all = new StringBuilder();
        for (String one : letters.split(" ")) {
            boolean marked = one.length() == 2;
            int of = marked ? 2 * t + one.charAt(1) - '0' : pair;
            all.append(all.length() == 0 ? "" : " ");
            all.append(one.equals("x") ? "x" : one.charAt(0) + "" + of);
        }
        return all.toString();
    }

    private static void bothWaysAlike() {
        for (String letter : new String[] {"C2", "c2", "S2", "s2"}) {
            TagTower x = new TagTower();
            x.rule(1, 0, 0, LEFT, 0);
            String want = Letters.production(x, Letters.number(letter));
            Due.holds(letter + " has one", !want.isEmpty());
            for (int made = 1; made < 12; made++) {
                x.rule(1, 0, made % 2, made / 2 % 2, made / 4);
                Due.is(letter, Letters.production(x, Letters.number(letter)), want);
            }
        }
    }

    private static void producesX(String letter, int way, String want) {
        TagTower x = new TagTower();
        x.rule(1, 1, 0, 1 - way, 0);
        Due.holds("it is another one the other way",
            !Letters.production(x, Letters.number(letter)).equals(want));
        x.rule(1, 1, 0, way, 0);
        Due.is("production of " + letter, Letters.production(x, Letters.number(letter)), want);
    }

    private static void wMatters(String sign, int way) {
        for (int pair = 0; pair < 6; pair++) {
            for (int t = 0; t < 3; t++) {
                TagTower x = new TagTower();
                int letter = Letters.number(sign + pair);
                x.rule(pair / 2, pair % 2, 0, way, t);
                Due.is("w is 0", Letters.production(x, letter), "C" + pair + " x");
                x.rule(pair / 2, pair % 2, 1, way, t);
                Due.is("w is 1", Letters.production(x, letter), "C" + pair + " x c" + pair + " x");
                x.rule(pair / 2, pair % 2, 0, way, t);
                Due.is("w is 0 again", Letters.production(x, letter), "C" + pair + " x");
            }
        }
    }

    private static void rulesOrNot() {
        for (int pair = 0; pair < 6; pair++) {
            TagTower x = new TagTower();
            for (int made = -1; made < 4; made++) {
                if (made >= 0) {
                    x.rule(pair / 2, pair % 2, made % 2, made / 2, 1);
                }
                Due.is("Q", Letters.production(x, 20 * pair + 7), "B" + pair + " x");
                Due.is("q", Letters.production(x, 20 * pair + 8), "b" + pair + " x");
            }
            x.unrule(pair / 2, pair % 2);
            Due.is("Q", Letters.production(x, 20 * pair + 7), "B" + pair + " x");
            Due.is("q", Letters.production(x, 20 * pair + 8), "b" + pair + " x");
        }
    }

    private static void othersHaveNone() {
        for (int w = 0; w < 2; w++) {
            TagTower right = Words.ruled("", w, RIGHT, 2);
            TagTower left = Words.ruled("", w, LEFT, 2);
            TagTower none = new TagTower();
            for (int letter = 0; letter <= 120; letter++) {
                int sign = letter == 0 ? -1 : (letter - 1) % 20;
                boolean isP = sign == 2 || sign == 3;
                boolean isQ = sign == 6 || sign == 7;
                boolean isX = letter == 0;
                Due.is("to the right: " + letter + " has one",
                    right.production(letter, 0) != TagTower.NONE ? 1 : 0, isX || isP ? 0 : 1);
                Due.is("to the left: " + letter + " has one",
                    left.production(letter, 0) != TagTower.NONE ? 1 : 0, isX ? 0 : 1);
                Due.is("without a rule: " + letter + " has one",
                    none.production(letter, 0) != TagTower.NONE ? 1 : 0, isQ ? 1 : 0);
            }
        }
    }

    private static void productionByPlaces() {
        TagTower x = new TagTower();
        x.rule(2, 1, 1, RIGHT, 2);
        int[][] want = {{115}, {117, 118}, {0, 81, 0}, {109, 0, 110, 0}};
        int[] letter = {105, 115, 112, 101};
        for (int i = 0; i < want.length; i++) {
            for (int k = 0; k < want[i].length; k++) {
                Due.is("production(" + letter[i] + ", " + k + ")", x.production(letter[i], k),
                    want[i][k]);
            }
        }
    }

    private static void productionHasNoneSuch() {
        TagTower x = new TagTower();
        x.rule(2, 1, 1, RIGHT, 2);
        int[] letter = {105, 115, 112, 101};
        for (int size = 1; size <= 4; size++) {
            for (int i : new int[] {-1, size, size + 1, MIN, MAX}) {
                Due.is("production(" + letter[size - 1] + ", " + i + ")",
                    x.production(letter[size - 1], i), TagTower.NONE);
            }
            Due.holds("the last one is there", x.production(letter[size - 1], size - 1) >= 0);
        }
    }

    private static void productionOfNone() {
        TagTower x = new TagTower();
        for (int letter : new int[] {0, 1, 3, 20, 21, 120}) {
            for (int i : new int[] {-1, 0, 1, MIN, MAX}) {
                Due.is("production(" + letter + ", " + i + ")", x.production(letter, i), TagTower.NONE);
            }
        }
    }

    private static void productionOfBadLetter() {
        TagTower x = Words.ruled("", 0, RIGHT, 0);
        for (int i : new int[] {-1, 0, 1, 4, MIN, MAX}) {
            Due.badBeside("production of a letter, i = " + i, 0, 120, v -> x.production(v, i));
        }
        Due.is("letter 0", x.production(0, 0), TagTower.NONE);
        Due.is("letter 120", x.production(120, 0), 6);
    }

    private static void layTakesTheWordsPlace() {
        TagTower x = Words.of("u5 u5 u5");
        Due.is("lay", x.lay(), 4);
        wordIs(x, "A0 x B0 x");
        x.place(2, 1, 0, 1);
        Due.is("lay", x.lay(), 6);
        wordIs(x, "A5 x B5 x b5 x");
        x.place(0, 1, 0, 0);
        Due.is("lay of fewer", x.lay(), 4);
        wordIs(x, "A1 x B1 x");
        Due.is("the place is as it was: s", x.where(1), 1);
        x = Words.ledBy("C0", 600);
        x.place(1, 1, 1, 0);
        Due.is("lay ahead of a full word", x.lay(), 6);
        wordIs(x, "A3 x a3 x B3 x");
    }

    private static void layTellsHowMany() {
        TagTower x = new TagTower();
        int[][] numbers = {{0, 0}, {1, 0}, {0, 1}, {2, 3}, {298, 0}, {0, 298}, {149, 149}};
        for (int[] one : numbers) {
            x.place(0, 0, one[0], one[1]);
            Due.is("lay", x.lay(), 4 + 2 * (one[0] + one[1]));
            Due.is("length", x.length(), 4 + 2 * (one[0] + one[1]));
        }
    }

    private static void layAbove600() {
        int[][] numbers = {{299, 0}, {0, 299}, {149, 150}, {150, 149}, {100000, 0}, {0, 100000},
            {100000, 100000}};
        for (int[] one : numbers) {
            TagTower x = Words.of("u5 x");
            x.place(0, 0, one[0], one[1]);
            Due.is("lay", x.lay(), TagTower.FULL);
            wordIs(x, "u5 x");
            Due.is("the place is as it was", x.where(2), one[0]);
            x.place(0, 0, 149, 149);
            Due.is("lay of 600", x.lay(), 600);
        }
    }

    private static void addTellsHowMany() {
        TagTower x = new TagTower();
        Due.is("add", x.add(120), 1);
        Due.is("add", x.add(0), 2);
        Due.is("add", x.add(120), 3);
        wordIs(x, "u5 x u5");
        x = Words.ledBy("C0", 599);
        Due.is("add", x.add(9), 600);
        Due.is("the end", x.letter(599), 9);
    }

    private static void addOfBadLetter() {
        TagTower x = Words.of("A0");
        Due.badBeside("add", 0, 120, x::add);
        wordIs(x, "A0");
        Due.takenOn("add", 0, 120, x::add);
        wordIs(x, "A0 x u5");
    }

    private static void addToFullWord() {
        TagTower x = Words.laid(600);
        Due.is("add to 600", x.add(0), TagTower.FULL);
        Due.is("add to 600", x.add(120), TagTower.FULL);
        Due.is("length", x.length(), 600);
        Due.is("clear", x.clear(), 600);
        Due.is("there is room again", x.add(120), 1);
    }

    private static void clearEmpties() {
        TagTower x = Words.laid(600);
        x.clear();
        Due.is("length", x.length(), 0);
        Due.is("letter(0)", x.letter(0), TagTower.NONE);
        Due.is("told", x.told(0), TagTower.NONE);
        Due.is("tag", x.tag(1), 0);
        Due.is("spread", x.spread(), 0);
        Due.is("add", x.add(3), 1);
        Due.is("letter(0)", x.letter(0), 3);
    }

    private static void clearTellsHowMany() {
        TagTower x = new TagTower();
        Due.is("clear of nothing", x.clear(), 0);
        x.add(0);
        Due.is("clear of one", x.clear(), 1);
        Due.is("clear again", x.clear(), 0);
        Due.is("clear of 600", Words.laid(600).clear(), 600);
    }

    private static void lettersByPlaces() {
        TagTower x = Words.of("u5 x A0");
        Due.is("letter(0)", x.letter(0), 120);
        Due.is("letter(1)", x.letter(1), 0);
        Due.is("letter(2)", x.letter(2), 1);
        x = Words.laid(600);
        Due.is("letter(0)", x.letter(0), 1);
        Due.is("letter(598)", x.letter(598), 5);
        Due.is("letter(599)", x.letter(599), 0);
    }

    private static void letterThatIsNone() {
        TagTower x = new TagTower();
        noLetters(x, 0);
        x.add(120);
        noLetters(x, 1);
        noLetters(Words.laid(600), 600);
        noLetters(Words.ledBy("C0", 600), 600);
        x = Words.of("Q0 x x");
        x.tag(1);
        noLetters(x, 3);
    }

    private static void noLetters(TagTower x, int length) {
        for (int i : new int[] {-1, length, length + 1, MIN, MAX}) {
            Due.is("letter(" + i + ") of " + length, x.letter(i), TagTower.NONE);
        }
        Due.is("the last one is there", x.letter(length - 1) >= 0 ? 1 : 0, length > 0 ? 1 : 0);
    }

    private static void lengths() {
        TagTower x = new TagTower();
        Due.is("length", x.length(), 0);
        x.add(0);
        Due.is("length", x.length(), 1);
        x.add(121);
        Due.is("length", x.length(), 1);
        x.place(0, 0, 298, 0);
        x.lay();
        Due.is("length", x.length(), 600);
        x.add(0);
        Due.is("length", x.length(), 600);
        x.clear();
        Due.is("length", x.length(), 0);
    }

    /** A1 x, C1 x, D1 E1, and so on without an end: two letters by each of three steps. */
    private static TagTower endless() {
        TagTower x = Words.of("A1 x");
        x.rule(0, 1, 0, RIGHT, 0);
        return x;
    }

    private static void tagsAtMostN() {
        for (int n : new int[] {1, 2, 19999, 20000}) {
            TagTower x = endless();
            Due.is("tag(" + n + ")", x.tag(n), n);
            wordIs(x, new String[] {"A1 x", "C1 x", "D1 E1"}[n % 3]);
        }
    }

    private static void tagsTillStill() {
        for (int n : new int[] {1, 2, 3, 20000}) {
            TagTower x = Words.of("Q0 x q1 x A0 x");
            Due.is("two steps to A0: tag(" + n + ")", x.tag(n), Math.min(n, 2));
        }
        TagTower x = Words.of("Q0 x");
        Due.is("tag to a letter without one", x.tag(20000), 1);
        wordIs(x, "B0 x");
        x = Words.ruled("B0 x", 0, RIGHT, 0);
        Due.is("tag to one letter", x.tag(20000), 1);
        wordIs(x, "S0");
        Due.is("tag of no letters", new TagTower().tag(20000), 0);
    }

    /** The letters come by 0, 1 or 2 more, or are one fewer. */
    private static void tagsTill600() {
        stepTo("a0", 598, 600);
        stepTo("a0", 599, 599);
        stepTo("a0", 600, 600);
        stepTo("E0", 598, 599);
        stepTo("E0", 599, 600);
        stepTo("E0", 600, 600);
        stepTo("C0", 600, 600);
        stepTo("B0", 600, 599);
        TagTower x = Words.ledBy("a0", 600);
        Due.is("tag at the limit", x.tag(20000), 0);
        Due.is("the letter that has no room", x.letter(0), 2);
        Due.is("tag again", x.tag(1), 0);
    }

    private static void stepTo(String letter, int from, int to) {
        TagTower x = Words.ledBy(letter, from);
        String last = Letters.name(x.letter(from - 1));
        boolean done = from != to || letter.equals("C0");
        Due.is("tag of " + letter + " at " + from, x.tag(1), done ? 1 : 0);
        Due.is("length", x.length(), to);
        Due.is("the first letter is taken", x.letter(0) == Letters.number(letter) ? 0 : 1, done ? 1 : 0);
        String end = letter.equals("C0") ? "E0" : letter.equals("B0") ? "S0" : "x";
        Due.is("the last letter", Letters.name(x.letter(to - 1)), done ? end : last);
    }

    private static void tagTellsHowMany() {
        TagTower x = Words.of("Q0 x q1 x Q1 x A0 x");
        Due.is("tag(2)", x.tag(2), 2);
        Due.is("tag(2) of the one that is left", x.tag(2), 1);
        Due.is("tag(2) of none", x.tag(2), 0);
        wordIs(x, "A0 x B0 x b1 x B1 x");
    }

    private static void tagOfBadNumber() {
        TagTower x = endless();
        Due.is("tag(0)", x.tag(0), TagTower.BAD);
        Due.badBeside("tag", 1, 20000, x::tag);
        wordIs(x, "A1 x");
        Due.takenOn("tag", 1, 20000, x::tag);
        TagTower still = new TagTower();
        Due.badBeside("tag of no letters", 1, 20000, still::tag);
    }

    private static void nextTakesAStep() {
        TagTower x = new TagTower();
        x.rule(0, 0, 0, RIGHT, 0);
        x.lay();
        Due.is("told: a place already", x.told(0), 0);
        int steps = x.next();
        Due.holds("next goes on from a place, and takes " + steps, steps > 1);
        wordIs(x, "A0 x B0 x");
        x = Words.of("A0 x B0 x");
        Due.is("next of a place that stands still", x.next(), TagTower.STATE);
        x = Words.of("Q0 x A0 x");
        Due.is("one step is enough", x.next(), 1);
    }

    private static void nextComesToPlace() {
        TagTower x = new TagTower();
        x.rule(0, 0, 1, RIGHT, 1);
        x.rule(1, 1, 0, LEFT, 0);
        x.place(0, 0, 1, 3);
        x.lay();
        Due.is("next", x.next(), 18);
        wordIs(x, "A3 x a3 x a3 x a3 x B3 x b3 x");
        Due.is("next", x.next(), 23);
        wordIs(x, "A1 x a1 x B1 x b1 x b1 x");
        for (int pair = 0; pair < 6; pair++) {
            x = Words.of("q x A x a x B x".replaceAll("([qAaB])", "$1" + pair));
            Due.is("next", x.next(), 1);
            wordIs(x, "A x a x B x b x".replaceAll("([AaBb])", "$1" + pair));
        }
    }

    private static void nextOfNoNumbers() {
        TagTower x = Words.of("Q0 x A0 x");
        Due.is("next", x.next(), 1);
        wordIs(x, "A0 x B0 x");
        x = Words.of("Q0 x A0 x a0 x");
        Due.is("next", x.next(), 1);
        wordIs(x, "A0 x a0 x B0 x");
        x = Words.of("q0 x A0 x B0 x");
        Due.is("next", x.next(), 1);
        wordIs(x, "A0 x B0 x b0 x");
    }

    /** A word found by search: 20138 steps lead to the first place, so some steps are done ahead. */
    private static TagTower longWay(int ahead) {
        TagTower x = new TagTower();
        x.rule(0, 0, 0, RIGHT, 2);
        x.rule(0, 1, 1, LEFT, 1);
        x.rule(1, 0, 0, LEFT, 2);
        x.rule(1, 1, 1, RIGHT, 1);
        x.rule(2, 0, 1, RIGHT, 1);
        x.rule(2, 1, 1, LEFT, 0);
        addTwos(x, "A5", 1);
        addTwos(x, "a5", 67);
        addTwos(x, "B5", 33);
        addTwos(x, "B0", 48);
        x.tag(ahead);
        return x;
    }

    private static void addTwos(TagTower x, String letter, int times) {
        for (int i = 0; i < times; i++) {
            x.add(Letters.number(letter));
            x.add(0);
        }
    }

    private static void nextOf20000() {
        TagTower x = longWay(138);
        Due.is("no place yet", x.told(0), TagTower.NONE);
        Due.is("the last of 20000 steps leads to the place", x.next(), 20000);
        Due.holds("it is a place", x.told(0) >= 0);
        x = longWay(137);
        Due.is("the place is one step too far", x.next(), TagTower.STATE);
        x = longWay(139);
        Due.is("the place is one step nearer", x.next(), 19999);
    }

    private static void nextTellsHowMany() {
        for (int ahead = 0; ahead < 3; ahead++) {
            TagTower x = Words.of("q0 x q0 x q0 x A0 x B0 x");
            Due.is("tag", ahead == 0 ? 0 : x.tag(ahead), ahead);
            Due.is("next", x.next(), 3 - ahead);
            wordIs(x, "A0 x B0 x b0 x b0 x b0 x");
        }
    }

    private static void nextStandsStill() {
        for (String word : new String[] {"x x", "A0 x", "A0 x B0 x", "Q0", "x"}) {
            TagTower x = Words.of(word);
            Due.is("next of " + word, x.next(), TagTower.STATE);
            wordIs(x, word);
        }
        TagTower x = new TagTower();
        Due.is("next of no letters", x.next(), TagTower.STATE);
        Due.is("length", x.length(), 0);
    }

    private static void nextComesToStandStill() {
        TagTower x = Words.of("Q0 x Q0 x x x");
        Due.is("next to a letter without one", x.next(), TagTower.STATE);
        wordIs(x, "Q0 x Q0 x x x");
        x = Words.ruled("B0 x", 0, RIGHT, 0);
        Due.is("next to one letter", x.next(), TagTower.STATE);
        wordIs(x, "B0 x");
    }

    private static void nextAbove600() {
        TagTower x = Words.ledBy("a0", 600);
        Due.is("the first step has no room", x.next(), TagTower.STATE);
        Due.is("length", x.length(), 600);
        Due.is("first letter", x.letter(0), 2);
        x = Words.laid(598);
        x.rule(0, 0, 0, RIGHT, 0);
        Due.is("a later step has no room", x.next(), TagTower.STATE);
        Due.is("length", x.length(), 598);
        Due.is("told", x.told(2), 297);
        Due.is("the steps that have room", x.tag(20000), 2);
    }

    private static void nextOfAllSteps() {
        TagTower x = endless();
        Due.is("no place without an end", x.next(), TagTower.STATE);
        wordIs(x, "A1 x");
        x = longWay(137);
        Due.is("20000 steps are done ahead of the place", x.next(), TagTower.STATE);
        Due.is("one step more leads to it", x.tag(1), 1);
        Due.is("next", x.next(), 20000);
    }

    /** The place that is come to may stand still itself: it is a place all the same. */
    private static void nextToPlaceThatStandsStill() {
        TagTower x = Words.of("Q0 x A0 x");
        Due.is("next to a place without a rule", x.next(), 1);
        Due.is("it stands still", x.tag(1), 0);
        Due.is("next from there", x.next(), TagTower.STATE);
        x = longWay(138);
        Due.is("next to a place by the last step", x.next(), 20000);
    }

    private static void nextGoesBack() {
        goesBack("Q0 x Q0 x x x");
        goesBack("q3 u5 Q0 A0 A1 x A1 x");
        TagTower x = longWay(137);
        TagTower y = longWay(137);
        Due.is("next", x.next(), TagTower.STATE);
        int length = y.length();
        Due.is("length", x.length(), length);
        for (int i = 0; i < 90; i++) {
            Due.is("letter " + i, x.letter(i), y.letter(i));
            Due.is("letter " + i + " from the end", x.letter(length - 1 - i), y.letter(length - 1 - i));
        }
    }

    private static void goesBack(String word) {
        TagTower x = Words.of(word);
        Due.is("next of " + word, x.next(), TagTower.STATE);
        wordIs(x, word);
        Due.holds("steps were done and undone", x.tag(20000) > 0);
    }

    private static void toldIs(TagTower x, int q, int s, int m, int n) {
        int[] want = {q, s, m, n};
        for (int what = 0; what < 4; what++) {
            Due.is("told(" + what + ")", x.told(what), want[what]);
        }
    }

    private static void toldOfPlaces() {
        int[][] numbers = {{0, 0}, {1, 0}, {0, 1}, {2, 3}, {298, 0}, {0, 298}, {149, 149}};
        for (int pair = 0; pair < 6; pair++) {
            for (int[] one : numbers) {
                TagTower x = new TagTower();
                x.place(pair / 2, pair % 2, one[0], one[1]);
                x.lay();
                x.place(1, 1, 7, 7);
                toldIs(x, pair / 2, pair % 2, one[0], one[1]);
            }
        }
        toldIs(Words.of("A5 x a5 x B5 x b5 x b5 x"), 2, 1, 1, 2);
    }

    private static void toldOfNoPlace() {
        String[] words = {
            "x", "A0", "A0 x", "A0 x B0", "x A0 x B0", "a0 x B0 x", "A0 x B1 x", "A0 x a1 x B0 x",
            "A0 x B0 x b1 x", "A0 x B0 x b0", "A0 x B0 x a0 x", "A0 x b0 x B0 x", "A0 x a0 x",
            "A0 x a0 x b0 x", "A0 A0 B0 x", "A0 x B0 B0", "A0 x a0 a0 B0 x", "A0 x B0 x b0 b0",
            "A0 x B0 x x", "A0 x B0 x x x", "A0 x B0 x b0 x b0", "A0 x B0 x B0 x", "B0 x A0 x",
            "A0 x A0 x B0 x", "x x x x", "A0 x a0 B0 x x", "C0 x B0 x", "A5 x B0 x", "Q5 x B5 x"
        };
        for (String word : words) {
            toldIs(Words.of(word), TagTower.NONE, TagTower.NONE, TagTower.NONE, TagTower.NONE);
        }
        TagTower x = new TagTower();
        toldIs(x, TagTower.NONE, TagTower.NONE, TagTower.NONE, TagTower.NONE);
        x.place(0, 0, 298, 0);
        x.lay();
        x.tag(1);
        toldIs(x, 0, 0, 298, 0);
        x.rule(0, 0, 0, LEFT, 0);
        x.tag(1);
        toldIs(x, TagTower.NONE, TagTower.NONE, TagTower.NONE, TagTower.NONE);
    }

    private static void toldThatIsBad() {
        TagTower x = new TagTower();
        x.lay();
        Due.badBeside("told of a place", 0, 3, x::told);
        Due.takenOn("told of a place", 0, 3, x::told);
        x.clear();
        Due.badBeside("told of no place", 0, 3, x::told);
        Due.is("told of no place", x.told(3), TagTower.NONE);
    }
}
