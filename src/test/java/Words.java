/** Towers whose words are long or begin with a given letter, made by few calls. */
final class Words {
    private static final int RIGHT = 1;

    private Words() {
    }

    static TagTower of(String letters) {
        TagTower x = new TagTower();
        Letters.addAll(x, letters);
        return x;
    }

    /** As of(..), with the rules of all pairs: write w, go the way, state t. */
    static TagTower ruled(String letters, int w, int way, int t) {
        TagTower x = new TagTower();
        for (int pair = 0; pair < 6; pair++) {
            x.rule(pair / 2, pair % 2, w, way, t);
        }
        if (!letters.isEmpty()) {
            Letters.addAll(x, letters);
        }
        return x;
    }

    /** The word that is laid with n letters, an even number of 4 and more. */
    static TagTower laid(int letters) {
        TagTower x = new TagTower();
        x.place(0, 0, letters / 2 - 2, 0);
        x.lay();
        return x;
    }

    /**
     * A word that begins with the letter and has that many letters. The letter stands behind those
     * of a place of (2, 1), of which one step takes a letter and all others bring two: so many
     * letters come by few calls. All rules are those of (2, 1): write 1, go right, state 0.
     */
    static TagTower ledBy(String letter, int letters) {
        TagTower x = aheadOf(letter, letters);
        int steps = growing(letters) + 3;
        Due.is("tag: letters to come", x.tag(steps), steps);
        Due.is("length", x.length(), letters);
        Due.is("the first letter", x.letter(0), Letters.number(letter));
        return x;
    }

    /** As ledBy(..), but for the bits, that have room for more letters than the word has. */
    static TagTower bitsLedBy(String letter, int letters) {
        TagTower x = aheadOf(letter, letters);
        int steps = growing(letters) + 3;
        int byWord = Math.min((600 - x.length()) / 2, growing(letters) + 1);
        Due.is("tag: letters to come", x.tag(byWord), byWord);
        x.spread();
        int byBits = 242 * (steps - byWord);
        Due.is("cycle: letters to come", x.cycle(byBits), byBits);
        Due.is("bits", x.bits(0), 121 * letters);
        Due.is("the turn", x.bits(1), 0);
        Due.is("the first letter", x.bit(Letters.number(letter)), 1);
        return x;
    }

    private static int growing(int letters) {
        return (letters - 10) / 4;
    }

    private static TagTower aheadOf(String letter, int letters) {
        TagTower x = ruled("", 1, RIGHT, 0);
        x.place(2, 1, growing(letters), 0);
        x.lay();
        Letters.addAll(x, "a5 x " + letter);
        for (int i = 0; i < (letters - 10) % 4; i++) {
            x.add(0);
        }
        return x;
    }
}
