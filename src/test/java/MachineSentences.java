/** Terms 2 and promises 9 to 13, sentence by sentence. */
final class MachineSentences {
    private static final int LEFT = 0, RIGHT = 1;

    private MachineSentences() {
    }

    static void all() {
        terms();
        rulesAndPlaces();
        moving();
    }

    private static void terms() {
        Sentence.holds("Terms 2", "THE MACHINE: STATES 0 .. 2, SIGNS 0, 1.",
            MachineSentences::statesAndSigns);
        Sentence.holds("Terms 2", "Its place: a STATE q, the SIGN s under its head, LEFT m and RIGHT n:",
            MachineSentences::placeIsTold);
        Sentence.holds("Terms 2", "numbers whose bits are the SIGNS from the head on to the left, "
            + "to the right, the nearest the lowest", MachineSentences::nearestIsLowest);
        Sentence.holds("Terms 2", "(0 .. 100000;", MachineSentences::tapeTo100000);
        Sentence.holds("Terms 2", "all 0 at first).", MachineSentences::placeAtFirst);
        Sentence.holds("Terms 2", "RULES of (q, s): a SIGN w, a way (0 left, 1 right), a STATE t;",
            MachineSentences::rulesOfEveryPair);
        Sentence.holds("Terms 2", "at first there are none.", MachineSentences::noRulesAtFirst);
        Sentence.holds("Terms 2", "A STEP: without a RULE for (q, s) it stands still.",
            MachineSentences::stillWithoutRule);
        Sentence.holds("Terms 2",
            "To the right: m becomes 2 m + w, s the lowest bit of n, n is halved (cut), q is t;",
            MachineSentences::stepsRight);
        Sentence.holds("Terms 2",
            "to the left: n becomes 2 n + w, s the lowest bit of m, m is halved, q is t.",
            MachineSentences::stepsLeft);
    }

    private static void rulesAndPlaces() {
        Sentence.holds("Promise 9", "A RULE of (q, s) (instead of one that is there):",
            MachineSentences::ruleInstead);
        Sentence.holds("Promise 9", "how many RULES there are.", MachineSentences::ruleTellsHowMany);
        Sentence.holds("Promise 9", "BAD: q, s, w, way, t.", MachineSentences::ruleThatIsBad);
        Sentence.holds("Promise 10", "(q, s) has no RULE:", MachineSentences::unruleTakesRule);
        Sentence.holds("Promise 10", "whether it had one: 1, 0.", MachineSentences::unruleTellsWhether);
        Sentence.holds("Promise 10", "BAD.", MachineSentences::unruleThatIsBad);
        Sentence.holds("Promise 11", "The place of THE MACHINE: 1.", MachineSentences::placeAnswers1);
        Sentence.holds("Promise 11", "BAD: q, s, m, n.", MachineSentences::placeThatIsBad);
    }

    private static void moving() {
        Sentence.holds("Promise 12", "n STEPS (1 .. 5000) at most,", MachineSentences::movesAtMostN);
        Sentence.holds("Promise 12", "till it stands still,", MachineSentences::movesTillStill);
        Sentence.holds("Promise 12", "or LEFT, RIGHT would be above 100000:",
            MachineSentences::movesTill100000);
        Sentence.holds("Promise 12", "how many.", MachineSentences::moveTellsHowMany);
        Sentence.holds("Promise 12", "BAD.", MachineSentences::moveOfBadNumber);
        Sentence.holds("Promise 13", "Of its place: q (what = 0), s (1), m (2), n (3);",
            MachineSentences::whereTellsPlace);
        Sentence.holds("Promise 13", "4: whether it stands still (1, 0).",
            MachineSentences::whereTellsStill);
        Sentence.holds("Promise 13", "BAD.", MachineSentences::whereThatIsBad);
    }

    private static void placeIs(TagTower x, int... want) {
        for (int what = 0; what < want.length; what++) {
            Due.is("where(" + what + ")", x.where(what), want[what]);
        }
    }

    private static TagTower placed(int q, int s, int m, int n) {
        TagTower x = new TagTower();
        x.place(q, s, m, n);
        return x;
    }

    private static void statesAndSigns() {
        TagTower x = new TagTower();
        for (int q = 0; q < 3; q++) {
            for (int s = 0; s < 2; s++) {
                Due.is("place", x.place(q, s, 0, 0), 1);
                placeIs(x, q, s, 0, 0);
            }
        }
        Due.is("state 3", x.place(3, 0, 0, 0), TagTower.BAD);
        Due.is("sign 2", x.place(0, 2, 0, 0), TagTower.BAD);
        Due.is("rule of state 3", x.rule(3, 0, 0, 0, 0), TagTower.BAD);
        Due.is("rule of sign 2", x.rule(0, 2, 0, 0, 0), TagTower.BAD);
        placeIs(x, 2, 1, 0, 0);
    }

    private static void placeIsTold() {
        TagTower x = placed(2, 1, 7, 9);
        placeIs(x, 2, 1, 7, 9);
        x.place(1, 0, 100000, 0);
        placeIs(x, 1, 0, 100000, 0);
        x.place(0, 1, 0, 100000);
        placeIs(x, 0, 1, 0, 100000);
    }

    /** 11 is 1, 1, 0, 1 from the lowest on: so come the signs under a head that goes there. */
    private static void nearestIsLowest() {
        for (int way = LEFT; way <= RIGHT; way++) {
            TagTower x = way == RIGHT ? placed(0, 0, 0, 11) : placed(0, 0, 11, 0);
            x.rule(0, 0, 0, way, 0);
            x.rule(0, 1, 0, way, 0);
            int[] signs = {1, 1, 0, 1, 0, 0};
            for (int sign : signs) {
                Due.is("move", x.move(1), 1);
                Due.is("the sign under the head", x.where(1), sign);
            }
            placeIs(x, 0, 0, 0, 0);
        }
    }

    private static void tapeTo100000() {
        TagTower x = new TagTower();
        Due.is("place", x.place(0, 0, 100000, 100000), 1);
        placeIs(x, 0, 0, 100000, 100000);
        Due.is("left 100001", x.place(0, 0, 100001, 0), TagTower.BAD);
        Due.is("right 100001", x.place(0, 0, 0, 100001), TagTower.BAD);
        placeIs(x, 0, 0, 100000, 100000);
        Due.is("place", x.place(0, 0, 0, 0), 1);
        placeIs(x, 0, 0, 0, 0);
        Due.is("left -1", x.place(0, 0, -1, 0), TagTower.BAD);
        Due.is("right -1", x.place(0, 0, 0, -1), TagTower.BAD);
    }

    private static void placeAtFirst() {
        placeIs(new TagTower(), 0, 0, 0, 0);
        TagTower x = new TagTower();
        x.rule(0, 0, 1, RIGHT, 2);
        Due.is("the first step is of (0, 0)", x.move(1), 1);
        placeIs(x, 2, 0, 1, 0);
    }

    private static void rulesOfEveryPair() {
        for (int made = 0; made < 6 * 12; made++) {
            int q = made % 6 / 2;
            int s = made % 2;
            int w = made / 6 % 2;
            int way = made / 12 % 2;
            int t = made / 24;
            TagTower x = placed(q, s, 2, 5);
            Due.is("rule", x.rule(q, s, w, way, t), 1);
            Due.is("move", x.move(1), 1);
            if (way == RIGHT) {
                placeIs(x, t, 1, 4 + w, 2);
            } else {
                placeIs(x, t, 0, 1, 10 + w);
            }
        }
    }

    private static void noRulesAtFirst() {
        for (int pair = 0; pair < 6; pair++) {
            TagTower x = placed(pair / 2, pair % 2, 1, 1);
            Due.is("move", x.move(1), 0);
            Due.is("where(4)", x.where(4), 1);
            Due.is("unrule", x.unrule(pair / 2, pair % 2), 0);
            Due.is("the first rule", x.rule(pair / 2, pair % 2, 0, 0, 0), 1);
        }
    }

    private static void stillWithoutRule() {
        for (int pair = 0; pair < 6; pair++) {
            TagTower x = placed(pair / 2, pair % 2, 3, 4);
            for (int other = 0; other < 6; other++) {
                if (other != pair) {
                    x.rule(other / 2, other % 2, 1, RIGHT, 1);
                }
            }
            Due.is("rules of all others: move", x.move(5000), 0);
            placeIs(x, pair / 2, pair % 2, 3, 4, 1);
            x.rule(pair / 2, pair % 2, 1, RIGHT, 1);
            Due.is("with a rule: move", x.move(1), 1);
        }
    }

    private static void stepsRight() {
        int[] lefts = {0, 1, 2, 49999, 50000};
        int[] rights = {0, 1, 2, 3, 99999, 100000};
        for (int m : lefts) {
            for (int n : rights) {
                for (int w = 0; w < 2 && 2 * m + w <= 100000; w++) {
                    TagTower x = placed(1, 0, m, n);
                    x.rule(1, 0, w, RIGHT, 2);
                    Due.is("move", x.move(1), 1);
                    placeIs(x, 2, n % 2, 2 * m + w, n / 2);
                }
            }
        }
    }

    private static void stepsLeft() {
        int[] lefts = {0, 1, 2, 3, 99999, 100000};
        int[] rights = {0, 1, 2, 49999, 50000};
        for (int m : lefts) {
            for (int n : rights) {
                for (int w = 0; w < 2 && 2 * n + w <= 100000; w++) {
                    TagTower x = placed(1, 0, m, n);
                    x.rule(1, 0, w, LEFT, 2);
                    Due.is("move", x.move(1), 1);
                    placeIs(x, 2, m % 2, m / 2, 2 * n + w);
                }
            }
        }
    }

    private static void ruleInstead() {
        TagTower x = placed(2, 1, 4, 6);
        Due.is("rule", x.rule(2, 1, 0, RIGHT, 0), 1);
        Due.is("rule instead", x.rule(2, 1, 1, LEFT, 1), 1);
        Due.is("move by the later one", x.move(1), 1);
        placeIs(x, 1, 0, 2, 13);
        Due.is("one unrule takes it", x.unrule(2, 1), 1);
        Due.is("the earlier one is not there", x.unrule(2, 1), 0);
        for (int made = 0; made < 6 * 4; made++) {
            int pair = made / 4;
            int w = made % 2;
            int way = made / 2 % 2;
            Due.is("what is left of the earlier one", State.difference(
                () -> ruled(pair, w, way, 2).then(1 - w, way, 0).then(w, 1 - way, 1).tower,
                () -> ruled(pair, w, 1 - way, 1).tower), "");
        }
    }

    private static Ruled ruled(int pair, int w, int way, int t) {
        return new Ruled(pair).then(w, way, t);
    }

    private static void ruleTellsHowMany() {
        TagTower x = new TagTower();
        for (int pair = 0; pair < 6; pair++) {
            Due.is("one more", x.rule(pair / 2, pair % 2, 0, LEFT, 0), pair + 1);
            Due.is("the same again", x.rule(pair / 2, pair % 2, 0, LEFT, 0), pair + 1);
        }
        Due.is("one of six", x.rule(0, 0, 1, RIGHT, 2), 6);
        x.unrule(1, 1);
        Due.is("one of five", x.rule(0, 0, 1, RIGHT, 2), 5);
        Due.is("six again", x.rule(1, 1, 1, RIGHT, 2), 6);
    }

    private static void ruleThatIsBad() {
        TagTower x = new TagTower();
        Due.badBeside("rule: q", 0, 2, q -> x.rule(q, 0, 0, 0, 0));
        Due.badBeside("rule: s", 0, 1, s -> x.rule(0, s, 0, 0, 0));
        Due.badBeside("rule: w", 0, 1, w -> x.rule(0, 0, w, 0, 0));
        Due.badBeside("rule: way", 0, 1, way -> x.rule(0, 0, 0, way, 0));
        Due.badBeside("rule: t", 0, 2, t -> x.rule(0, 0, 0, 0, t));
        for (int pair = 0; pair < 6; pair++) {
            Due.is("no rule is there", x.unrule(pair / 2, pair % 2), 0);
        }
        Due.takenOn("rule: q", 0, 2, q -> x.rule(q, 0, 0, 0, 0));
        Due.takenOn("rule: s", 0, 1, s -> x.rule(0, s, 0, 0, 0));
        Due.takenOn("rule: w", 0, 1, w -> x.rule(0, 0, w, 0, 0));
        Due.takenOn("rule: way", 0, 1, way -> x.rule(0, 0, 0, way, 0));
        Due.takenOn("rule: t", 0, 2, t -> x.rule(0, 0, 0, 0, t));
    }

    private static void unruleTakesRule() {
        for (int pair = 0; pair < 6; pair++) {
            TagTower x = placed(pair / 2, pair % 2, 1, 1);
            for (int other = 0; other < 6; other++) {
                x.rule(other / 2, other % 2, 0, RIGHT, other / 2);
            }
            x.unrule(pair / 2, pair % 2);
            Due.is("move", x.move(1), 0);
            Due.is("stands still", x.where(4), 1);
            for (int other = 0; other < 6; other++) {
                x.place(other / 2, other % 2, 1, 1);
                Due.is("of the others none is taken", x.move(1), other == pair ? 0 : 1);
            }
            int of = pair;
            for (int way = LEFT; way <= RIGHT; way++) {
                int rightOrLeft = way;
                Due.is("what is left of the rule", State.difference(
                    () -> ruled(of, 1, rightOrLeft, 2).thenNone().tower,
                    () -> new Ruled(of).tower), "");
            }
        }
    }

    private static void unruleTellsWhether() {
        TagTower x = new TagTower();
        Due.is("unrule of none", x.unrule(2, 1), 0);
        x.rule(2, 1, 0, LEFT, 0);
        Due.is("unrule of another pair", x.unrule(2, 0), 0);
        Due.is("unrule of one", x.unrule(2, 1), 1);
        Due.is("unrule of none again", x.unrule(2, 1), 0);
    }

    private static void unruleThatIsBad() {
        TagTower x = new TagTower();
        for (int pair = 0; pair < 6; pair++) {
            x.rule(pair / 2, pair % 2, 0, RIGHT, 0);
        }
        Due.badBeside("unrule: q", 0, 2, q -> x.unrule(q, 0));
        Due.badBeside("unrule: s", 0, 1, s -> x.unrule(0, s));
        Due.is("all rules are there", x.rule(0, 0, 0, RIGHT, 0), 6);
        Due.takenOn("unrule: q", 0, 2, q -> x.unrule(q, 0));
        Due.takenOn("unrule: s", 0, 1, s -> x.unrule(1, s));
        Due.is("two rules are left", x.rule(0, 1, 0, RIGHT, 0), 2);
    }

    private static void placeAnswers1() {
        TagTower x = new TagTower();
        Due.is("place", x.place(2, 1, 100000, 100000), 1);
        placeIs(x, 2, 1, 100000, 100000);
        Due.is("the same place", x.place(2, 1, 100000, 100000), 1);
        Due.is("place", x.place(0, 0, 0, 0), 1);
        placeIs(x, 0, 0, 0, 0);
    }

    private static void placeThatIsBad() {
        TagTower x = placed(1, 1, 3, 4);
        Due.badBeside("place: q", 0, 2, q -> x.place(q, 0, 0, 0));
        Due.badBeside("place: s", 0, 1, s -> x.place(0, s, 0, 0));
        Due.badBeside("place: m", 0, 100000, m -> x.place(0, 0, m, 0));
        Due.badBeside("place: n", 0, 100000, n -> x.place(0, 0, 0, n));
        placeIs(x, 1, 1, 3, 4);
        Due.takenOn("place: q", 0, 2, q -> x.place(q, 0, 0, 0));
        Due.takenOn("place: s", 0, 1, s -> x.place(0, s, 0, 0));
        Due.takenOn("place: m", 0, 100000, m -> x.place(0, 0, m, 0));
        Due.takenOn("place: n", 0, 100000, n -> x.place(0, 0, 0, n));
    }

    private static void movesAtMostN() {
        TagTower x = new TagTower();
        x.rule(0, 0, 0, RIGHT, 0);
        for (int n : new int[] {1, 2, 4999, 5000}) {
            Due.is("move(" + n + ") of an empty tape", x.move(n), n);
        }
        x.place(0, 0, 1, 0);
        Due.is("move(1)", x.move(1), 1);
        placeIs(x, 0, 0, 2, 0, 0);
        Due.is("move(3)", x.move(3), 3);
        placeIs(x, 0, 0, 16, 0, 0);
    }

    private static void movesTillStill() {
        for (int n : new int[] {2, 3, 4, 5000}) {
            TagTower x = placed(0, 0, 0, 4);
            x.rule(0, 0, 0, RIGHT, 0);
            Due.is("three steps to the sign 1", x.move(n), Math.min(n, 3));
            placeIs(x, 0, n < 3 ? 0 : 1, 0, n < 3 ? 1 : 0, n < 3 ? 0 : 1);
        }
        TagTower x = new TagTower();
        Due.is("no rules: move", x.move(5000), 0);
        placeIs(x, 0, 0, 0, 0, 1);
    }

    private static void movesTill100000() {
        for (int way = LEFT; way <= RIGHT; way++) {
            movesToLimit(way, 50000, 0, 1);
            movesToLimit(way, 50000, 1, 0);
            movesToLimit(way, 49999, 1, 1);
            movesToLimit(way, 100000, 0, 0);
        }
        TagTower x = placed(0, 0, 1, 0);
        x.rule(0, 0, 0, RIGHT, 0);
        Due.is("1 to 65536", x.move(5000), 16);
        placeIs(x, 0, 0, 65536, 0, 0);
        x.rule(0, 0, 0, LEFT, 0);
        Due.is("the other way has room", x.move(1), 1);
        placeIs(x, 0, 0, 32768, 0);
    }

    /** What is behind the head grows from a number by a sign: one step, or none. */
    private static void movesToLimit(int way, int behind, int w, int steps) {
        TagTower x = way == RIGHT ? placed(0, 0, behind, 100000) : placed(0, 0, 100000, behind);
        x.rule(0, 0, w, way, 1);
        Due.is("move from " + behind + " by " + w, x.move(5000), steps);
        int grown = steps == 1 ? 2 * behind + w : behind;
        int halved = steps == 1 ? 50000 : 100000;
        placeIs(x, steps, 0, way == RIGHT ? grown : halved, way == RIGHT ? halved : grown, steps);
    }

    private static void moveTellsHowMany() {
        TagTower x = placed(0, 0, 0, 4);
        x.rule(0, 0, 0, RIGHT, 0);
        Due.is("move(2)", x.move(2), 2);
        Due.is("move(2) of the one that is left", x.move(2), 1);
        Due.is("move(2) of none", x.move(2), 0);
    }

    private static void moveOfBadNumber() {
        TagTower x = placed(0, 0, 1, 0);
        x.rule(0, 0, 0, RIGHT, 0);
        Due.is("move(0)", x.move(0), TagTower.BAD);
        Due.badBeside("move", 1, 5000, x::move);
        placeIs(x, 0, 0, 1, 0, 0);
        Due.takenOn("move", 1, 5000, x::move);
        TagTower still = new TagTower();
        Due.badBeside("move that stands still", 1, 5000, still::move);
    }

    private static void whereTellsPlace() {
        TagTower x = new TagTower();
        placeIs(x, 0, 0, 0, 0);
        x.place(2, 1, 100000, 99999);
        placeIs(x, 2, 1, 100000, 99999);
        placeIs(x, 2, 1, 100000, 99999);
    }

    private static void whereTellsStill() {
        TagTower x = new TagTower();
        Due.is("no rules", x.where(4), 1);
        x.rule(0, 1, 1, RIGHT, 1);
        Due.is("a rule of another sign", x.where(4), 1);
        x.place(0, 1, 0, 0);
        Due.is("a rule", x.where(4), 0);
        x.place(0, 1, 100000, 0);
        Due.is("a rule whose step has no room", x.where(4), 0);
        Due.is("it is not done", x.move(1), 0);
        Due.is("a rule whose step has no room", x.where(4), 0);
        x.unrule(0, 1);
        Due.is("no rules", x.where(4), 1);
    }

    private static void whereThatIsBad() {
        TagTower x = new TagTower();
        Due.badBeside("where", 0, 4, x::where);
        Due.takenOn("where", 0, 4, x::where);
    }

    /** A tower with rules that come one instead of the other, and rules of the pairs beside. */
    private static final class Ruled {
        private final TagTower tower = new TagTower();
        private final int pair;

        Ruled(int pair) {
            this.pair = pair;
            for (int other = 0; other < 6; other++) {
                if (other != pair) {
                    tower.rule(other / 2, other % 2, other % 2, other / 2 % 2, 2 - other / 2);
                }
            }
        }

        Ruled then(int w, int way, int t) {
            tower.rule(pair / 2, pair % 2, w, way, t);
            return this;
        }

        Ruled thenNone() {
            tower.unrule(pair / 2, pair % 2);
            return this;
        }
    }
}
