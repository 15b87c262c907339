/** Promises 14 to 22 in ordinary runs; WordSentences has the edges. */
public final class WordTest {
    private static final int LEFT = 0, RIGHT = 1;
    private static final String RIGHT_ZERO =
        "A2=C2 x|a2=c2 x c2 x|P2=|p2=|B2=S2|b2=s2|Q2=B2 x|q2=b2 x|C2=D2 E2|c2=d2 e2|D2=A5 x|"
        + "E2=x A4 x|d2=a5 x|e2=a4 x|S2=T2 U2|s2=t2 u2|T2=B5 x|U2=B4 x|t2=b5 x|u2=b4 x";
    private static final String RIGHT_ONE =
        "A2=C2 x c2 x|a2=c2 x c2 x|P2=|p2=|B2=S2|b2=s2|Q2=B2 x|q2=b2 x|C2=D2 E2|c2=d2 e2|D2=A5 x|"
        + "E2=x A4 x|d2=a5 x|e2=a4 x|S2=T2 U2|s2=t2 u2|T2=B5 x|U2=B4 x|t2=b5 x|u2=b4 x";
    private static final String LEFT_ZERO =
        "A2=P2 x|a2=p2 x|P2=S2|p2=s2|B2=C2 x|b2=c2 x c2 x|Q2=B2 x|q2=b2 x|C2=D2 E2|c2=d2 e2|"
        + "D2=Q5 x|E2=x Q4 x|d2=q5 x|e2=q4 x|S2=T2 U2|s2=t2 u2|T2=A5 x|U2=A4 x|t2=a5 x|u2=a4 x";
    private static final String LEFT_ONE =
        "A2=P2 x|a2=p2 x|P2=S2|p2=s2|B2=C2 x c2 x|b2=c2 x c2 x|Q2=B2 x|q2=b2 x|C2=D2 E2|c2=d2 e2|"
        + "D2=Q5 x|E2=x Q4 x|d2=q5 x|e2=q4 x|S2=T2 U2|s2=t2 u2|T2=A5 x|U2=A4 x|t2=a5 x|u2=a4 x";
    private static final String WITHOUT_RULE =
        "A2=|a2=|P2=|p2=|B2=|b2=|Q2=B2 x|q2=b2 x|C2=|c2=|D2=|E2=|d2=|e2=|S2=|s2=|T2=|U2=|t2=|u2=";

    public static void main(String[] args) {
        productionsOfOnePair();
        productionsOfOtherPairs();
        productionsOfEveryPair();
        lays();
        tags();
        nexts();
        nextFollowsTheMachine();
        tellsPlaces();
        rulesLeaveTheWord();
        Due.end();
    }

    private static void productionsAre(TagTower x, String table) {
        for (String row : table.split("\\|")) {
            String name = row.substring(0, row.indexOf('='));
            String want = row.substring(row.indexOf('=') + 1);
            Due.is("production of " + name, Letters.production(x, Letters.number(name)), want);
        }
    }

    private static void productionsOfOnePair() {
        TagTower x = new TagTower();
        productionsAre(x, WITHOUT_RULE);
        x.rule(1, 0, 0, RIGHT, 2);
        productionsAre(x, RIGHT_ZERO);
        Due.is("another pair has none", Letters.production(x, Letters.number("A3")), "");
        x = new TagTower();
        x.rule(1, 0, 0, LEFT, 2);
        productionsAre(x, LEFT_ZERO);
        x.rule(1, 0, 1, RIGHT, 2);
        productionsAre(x, RIGHT_ONE);
        x = new TagTower();
        x.rule(1, 0, 1, RIGHT, 2);
        x.rule(1, 0, 1, LEFT, 2);
        productionsAre(x, LEFT_ONE);
        x = new TagTower();
        x.rule(1, 0, 1, LEFT, 2);
        x.unrule(1, 0);
        productionsAre(x, WITHOUT_RULE);
    }

    /** A rule that comes or goes leaves the productions of the pairs beside it. */
    private static void productionsOfOtherPairs() {
        TagTower x = new TagTower();
        x.rule(0, 1, 0, RIGHT, 0);
        x.rule(1, 0, 0, LEFT, 2);
        x.rule(1, 1, 0, RIGHT, 0);
        productionsAre(x, LEFT_ZERO);
        Due.is("the last of the pair ahead", Letters.production(x, Letters.number("u1")), "b0 x");
        Due.is("the first of the pair behind", Letters.production(x, Letters.number("A3")), "C3 x");
        x.unrule(1, 0);
        productionsAre(x, WITHOUT_RULE);
        Due.is("the last of the pair ahead", Letters.production(x, Letters.number("u1")), "b0 x");
        Due.is("the first of the pair behind", Letters.production(x, Letters.number("A3")), "C3 x");
        x.unrule(0, 1);
        x.unrule(1, 1);
        x.rule(1, 0, 0, LEFT, 2);
        productionsAre(x, LEFT_ZERO);
    }

    private static void productionsOfEveryPair() {
        for (int pair = 0; pair < 6; pair++) {
            TagTower x = new TagTower();
            int t = (pair + 1) % 3;
            x.rule(pair / 2, pair % 2, 0, RIGHT, t);
            for (int sign = 0; sign < 20; sign++) {
                int letter = 20 * pair + sign + 1;
                String row = RIGHT_ZERO.split("\\|")[sign];
                String want = row.substring(row.indexOf('=') + 1)
                    .replace('5', 'i').replace('4', 'o').replace("2", "" + pair)
                    .replace("i", "" + (2 * t + 1)).replace("o", "" + 2 * t);
                Due.is("production of " + letter, Letters.production(x, letter), want);
            }
            int other = (pair + 1) % 6;
            Due.is("Q of another pair", Letters.production(x, 20 * other + 7), "B" + other + " x");
            Due.is("C of another pair", Letters.production(x, 20 * other + 9), "");
        }
    }

    private static void lays() {
        TagTower x = new TagTower();
        Due.is("lay", x.lay(), 4);
        Due.is("word", Letters.word(x), "A0 x B0 x");
        x.place(2, 1, 2, 1);
        Due.is("lay", x.lay(), 10);
        Due.is("word", Letters.word(x), "A5 x a5 x a5 x B5 x b5 x");
        x.place(1, 0, 0, 3);
        Due.is("lay", x.lay(), 10);
        Due.is("word", Letters.word(x), "A2 x B2 x b2 x b2 x b2 x");
        Due.is("letter(-1)", x.letter(-1), TagTower.NONE);
        Due.is("letter(9)", x.letter(9), 0);
        Due.is("letter(10)", x.letter(10), TagTower.NONE);
        Due.is("letter(max)", x.letter(Integer.MAX_VALUE), TagTower.NONE);
        Due.is("letter(min)", x.letter(Integer.MIN_VALUE), TagTower.NONE);
        Due.is("the machine is as it was", x.where(3), 3);
    }

    private static void tags() {
        TagTower x = new TagTower();
        x.rule(0, 0, 0, RIGHT, 0);
        Letters.addAll(x, "A0 x b5");
        Due.is("bad tag", x.tag(0), TagTower.BAD);
        Due.is("bad tag", x.tag(-1), TagTower.BAD);
        Due.is("bad tag", x.tag(20001), TagTower.BAD);
        Due.is("word", Letters.word(x), "A0 x b5");
        Due.is("tag", x.tag(1), 1);
        Due.is("word", Letters.word(x), "b5 C0 x");
        Due.is("b5 has none", x.tag(1), 0);
        x.rule(2, 1, 0, LEFT, 1);
        Due.is("b5 has one now", x.tag(20000), 1);
        Due.is("x has none", Letters.word(x), "x c5 x c5 x");
        x.clear();
        Letters.addAll(x, "A0 u3");
        Due.is("tag to the end", x.tag(20000), 3);
        Due.is("word", Letters.word(x), "A1 x");
        x.clear();
        Letters.addAll(x, "B0 x");
        Due.is("tag to one letter", x.tag(20000), 1);
        Due.is("word", Letters.word(x), "S0");
        Due.is("one letter stands still", x.tag(1), 0);
        x.rule(0, 1, 0, RIGHT, 0);
        x.clear();
        Letters.addAll(x, "A1 x");
        Due.is("20000 at most", x.tag(20000), 20000);
        Due.is("20000 is two more than a multiple of 3", Letters.word(x), "D1 E1");
        Due.is("tag(2)", x.tag(2), 2);
        Due.is("word", Letters.word(x), "C1 x");
    }

    private static void nexts() {
        TagTower x = new TagTower();
        x.rule(0, 0, 1, RIGHT, 1);
        x.place(0, 0, 1, 3);
        x.lay();
        Due.is("next", x.next(), 18);
        Due.is("word", Letters.word(x), "A3 x a3 x a3 x a3 x B3 x b3 x");
        Due.is("no rule there: next", x.next(), TagTower.STATE);
        Due.is("word", Letters.word(x), "A3 x a3 x a3 x a3 x B3 x b3 x");
        x.clear();
        Letters.addAll(x, "Q0 x A0 x");
        Due.is("a word that becomes a place", x.next(), 1);
        Due.is("word", Letters.word(x), "A0 x B0 x");
        Due.is("one step at least", x.next() != 0 ? 1 : 0, 1);
    }

    /** What leads from a place to the next one is what the machine does with it. */
    private static void nextFollowsTheMachine() {
        for (int pair = 0; pair < 6; pair++) {
            for (int made = 0; made < 12; made++) {
                TagTower x = new TagTower();
                x.rule(pair / 2, pair % 2, made % 2, made / 2 % 2, made / 4);
                int m = (7 * made + pair) % 12;
                int n = (5 * made + 3 * pair) % 13;
                x.place(pair / 2, pair % 2, m, n);
                x.lay();
                Due.is("next goes on", x.next() > 0 ? 1 : 0, 1);
                Due.is("move", x.move(1), 1);
                for (int what = 0; what < 4; what++) {
                    Due.is("told of " + pair + " " + made, x.told(what), x.where(what));
                }
            }
        }
    }

    private static void toldIs(TagTower x, int q, int s, int m, int n) {
        int[] want = {q, s, m, n};
        for (int what = 0; what < 4; what++) {
            Due.is("told(" + what + ") of " + Letters.word(x), x.told(what), want[what]);
        }
    }

    private static void tellsPlaces() {
        TagTower x = new TagTower();
        Due.is("bad told", x.told(-1), TagTower.BAD);
        Due.is("bad told", x.told(4), TagTower.BAD);
        Letters.addAll(x, "A0 x B0 x");
        Due.is("bad told", x.told(4), TagTower.BAD);
        toldIs(x, 0, 0, 0, 0);
        Letters.addAll(x, "b0 x");
        toldIs(x, 0, 0, 0, 1);
        x.clear();
        Letters.addAll(x, "A5 x a5 x a5 x B5 x b5 x");
        toldIs(x, 2, 1, 2, 1);
        x.clear();
        Letters.addAll(x, "A2 x a2 x B2 x");
        toldIs(x, 1, 0, 1, 0);
    }

    private static void rulesLeaveTheWord() {
        TagTower x = new TagTower();
        x.rule(0, 0, 1, RIGHT, 2);
        Letters.addAll(x, "A0 x B0 x");
        x.rule(0, 0, 0, LEFT, 1);
        Due.is("word", Letters.word(x), "A0 x B0 x");
        Due.is("tag", x.tag(1), 1);
        Due.is("by the new rule", Letters.word(x), "B0 x P0 x");
        x.unrule(0, 0);
        Due.is("word", Letters.word(x), "B0 x P0 x");
        Due.is("no rule any more", x.tag(1), 0);
    }
}
