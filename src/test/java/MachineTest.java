/** Promises 9 to 13 in ordinary runs; MachineSentences has the edges. */
public final class MachineTest {
    private static final int LEFT = 0, RIGHT = 1;

    public static void main(String[] args) {
        rules();
        unrules();
        places();
        movesRight();
        movesLeft();
        movesLong();
        Due.end();
    }

    private static void placeIs(TagTower x, int q, int s, int m, int n, int still) {
        int[] want = {q, s, m, n, still};
        for (int what = 0; what < 5; what++) {
            Due.is("where(" + what + ")", x.where(what), want[what]);
        }
    }

    private static void rules() {
        TagTower x = new TagTower();
        int many = 0;
        for (int q = 0; q < 3; q++) {
            for (int s = 0; s < 2; s++) {
                many++;
                Due.is("rule", x.rule(q, s, 1, RIGHT, 2), many);
                Due.is("rule instead", x.rule(q, s, 0, LEFT, 1), many);
            }
        }
        Due.is("six rules", x.rule(1, 1, 1, LEFT, 0), 6);
        x.place(1, 1, 2, 1);
        Due.is("the last rule told holds", x.move(1), 1);
        placeIs(x, 0, 0, 1, 3, 0);
    }

    private static void unrules() {
        TagTower x = new TagTower();
        x.rule(0, 0, 0, RIGHT, 0);
        x.rule(2, 1, 0, RIGHT, 0);
        Due.is("bad unrule", x.unrule(-1, 0), TagTower.BAD);
        Due.is("bad unrule", x.unrule(3, 0), TagTower.BAD);
        Due.is("bad unrule", x.unrule(0, -1), TagTower.BAD);
        Due.is("bad unrule", x.unrule(0, 2), TagTower.BAD);
        Due.is("unrule of none", x.unrule(0, 1), 0);
        Due.is("it moves", x.move(1), 1);
        Due.is("unrule", x.unrule(0, 0), 1);
        Due.is("unrule again", x.unrule(0, 0), 0);
        Due.is("it stands still", x.move(1), 0);
        Due.is("it stands still", x.where(4), 1);
        Due.is("one rule is left", x.rule(2, 1, 1, LEFT, 1), 1);
        Due.is("rule again", x.rule(0, 0, 0, RIGHT, 0), 2);
    }

    private static void places() {
        TagTower x = new TagTower();
        Due.is("place", x.place(2, 1, 100000, 100000), 1);
        placeIs(x, 2, 1, 100000, 100000, 1);
        int[][] bad = {
            {-1, 0, 0, 0}, {3, 0, 0, 0}, {0, -1, 0, 0}, {0, 2, 0, 0}, {0, 0, -1, 0},
            {0, 0, 100001, 0}, {0, 0, 0, -1}, {0, 0, 0, 100001}, {0, 0, Integer.MIN_VALUE, 0}
        };
        for (int[] b : bad) {
            Due.is("bad place", x.place(b[0], b[1], b[2], b[3]), TagTower.BAD);
        }
        placeIs(x, 2, 1, 100000, 100000, 1);
        x.rule(2, 1, 0, LEFT, 0);
        placeIs(x, 2, 1, 100000, 100000, 0);
        Due.is("place", x.place(1, 0, 3, 4), 1);
        placeIs(x, 1, 0, 3, 4, 1);
    }

    private static void movesRight() {
        TagTower x = new TagTower();
        x.rule(0, 0, 1, RIGHT, 1);
        x.rule(1, 1, 0, RIGHT, 2);
        x.place(0, 0, 5, 11);
        Due.is("bad move", x.move(0), TagTower.BAD);
        Due.is("bad move", x.move(-5), TagTower.BAD);
        Due.is("bad move", x.move(5001), TagTower.BAD);
        placeIs(x, 0, 0, 5, 11, 0);
        Due.is("move", x.move(1), 1);
        placeIs(x, 1, 1, 11, 5, 0);
        Due.is("move till it stands still", x.move(5000), 1);
        placeIs(x, 2, 1, 22, 2, 1);
        Due.is("no move", x.move(5000), 0);
        placeIs(x, 2, 1, 22, 2, 1);
    }

    private static void movesLeft() {
        TagTower x = new TagTower();
        x.rule(0, 0, 1, LEFT, 1);
        x.rule(1, 1, 0, LEFT, 2);
        x.place(0, 0, 11, 5);
        Due.is("move", x.move(1), 1);
        placeIs(x, 1, 1, 5, 11, 0);
        Due.is("move", x.move(2), 1);
        placeIs(x, 2, 1, 2, 22, 1);
    }

    private static void movesLong() {
        TagTower x = new TagTower();
        x.rule(0, 0, 0, RIGHT, 0);
        Due.is("5000 at most", x.move(5000), 5000);
        placeIs(x, 0, 0, 0, 0, 0);
        x.rule(0, 0, 1, LEFT, 1);
        x.rule(1, 0, 0, RIGHT, 0);
        x.rule(0, 1, 1, RIGHT, 2);
        Due.is("three moves", x.move(3), 3);
        placeIs(x, 2, 0, 1, 0, 1);
    }
}
