/**
 * A tower of machines, each of which does what the one above it does: counters with a program, a
 * machine with a tape of two signs, a word, a row of bits.
 */
public final class TagTower {
    public static final int BAD = -1, STATE = -2, FULL = -3, NONE = -9;

    private static final int LAST_COUNTER = 3;
    private static final int COUNTER_MOST = 1000;
    private static final int LINES_MOST = 24;
    private static final int COUNT_MOST = 5000;

    private static final int LAST_STATE = 2;
    private static final int PAIRS = 6;
    private static final int TAPE_MOST = 100000;
    private static final int MOVE_MOST = 5000;

    private static final int X = 0;
    private static final int KINDS = 20;
    private static final int LETTERS = PAIRS * KINDS + 1;
    private static final int WORD_MOST = 600;
    private static final int TAG_MOST = 20000;

    private static final int TURNS = 2 * LETTERS;
    private static final int BITS_MOST = 80000;
    private static final int CYCLE_MOST = 30000;

    private final Counters counters;
    private final Machine machine;
    private final Productions productions;
    private final Word word;
    private final Bits bitRow;

    public TagTower() {
        counters = new Counters();
        machine = new Machine();
        productions = new Productions();
        word = new Word();
        bitRow = new Bits();
    }

    // ---- counters

    public int line(int op, int r, int a, int b) {
        if (outside(op, Counters.UP, Counters.STOP) || outside(r, 0, LAST_COUNTER)) {
            return BAD;
        }
        if (outside(a, 0, LINES_MOST) || outside(b, 0, LINES_MOST)) {
            return BAD;
        }
        return counters.addLine(op, r, a, b);
    }

    public int wipe() {
        return counters.forgetLines();
    }

    public int set(int r, int v) {
        if (outside(r, 0, LAST_COUNTER) || outside(v, 0, COUNTER_MOST)) {
            return BAD;
        }
        return counters.putValue(r, v);
    }

    public int counter(int r) {
        if (outside(r, 0, LAST_COUNTER)) {
            return BAD;
        }
        return counters.value(r);
    }

    public int count(int n) {
        if (outside(n, 1, COUNT_MOST)) {
            return BAD;
        }
        return counters.doLines(n);
    }

    public int at() {
        return counters.lineNow();
    }

    public int go(int line) {
        if (outside(line, 0, LINES_MOST)) {
            return BAD;
        }
        return counters.jump(line);
    }

    // ---- the machine

    public int rule(int q, int s, int w, int way, int t) {
        if (outside(q, 0, LAST_STATE) || outside(s, 0, 1) || outside(w, 0, 1)) {
            return BAD;
        }
        if (outside(way, Machine.LEFTWARD, Machine.RIGHTWARD) || outside(t, 0, LAST_STATE)) {
            return BAD;
        }
        int pair = pairOf(q, s);
        productions.follow(pair, w, way, t);
        return machine.putRule(pair, w, way, t);
    }

    public int unrule(int q, int s) {
        if (outside(q, 0, LAST_STATE) || outside(s, 0, 1)) {
            return BAD;
        }
        int pair = pairOf(q, s);
        productions.followNone(pair);
        return machine.dropRule(pair);
    }

    public int place(int q, int s, int m, int n) {
        if (outside(q, 0, LAST_STATE) || outside(s, 0, 1)) {
            return BAD;
        }
        if (outside(m, 0, TAPE_MOST) || outside(n, 0, TAPE_MOST)) {
            return BAD;
        }
        machine.putPlace(q, s, m, n);
        return 1;
    }

    public int move(int n) {
        if (outside(n, 1, MOVE_MOST)) {
            return BAD;
        }
        return machine.doSteps(n);
    }

    public int where(int what) {
        switch (what) {
            case 0: return machine.state;
            case 1: return machine.sign;
            case 2: return machine.left;
            case 3: return machine.right;
            case 4: return oneIf(machine.isStill());
            default: return BAD;
        }
    }

    // ---- the word

    public int production(int letter, int i) {
        if (outside(letter, 0, LETTERS - 1)) {
            return BAD;
        }
        return productions.letterAt(letter, i);
    }

    public int lay() {
        return word.layPlace(pairOf(machine.state, machine.sign), machine.left, machine.right);
    }

    public int add(int letter) {
        if (outside(letter, 0, LETTERS - 1)) {
            return BAD;
        }
        return word.addLetter(letter);
    }

    public int clear() {
        int had = word.row.size;
        word.row.empty();
        return had;
    }

    public int letter(int i) {
        return word.row.get(i);
    }

    public int length() {
        return word.row.size;
    }

    public int tag(int n) {
        if (outside(n, 1, TAG_MOST)) {
            return BAD;
        }
        return word.doSteps(n, productions);
    }

    public int next() {
        return word.stepsToPlace(productions);
    }

    public int told(int what) {
        if (outside(what, 0, 3)) {
            return BAD;
        }
        return word.tellPlace(what);
    }

    // ---- the bits

    public int appendant(int turn, int k) {
        if (outside(turn, 0, TURNS - 1)) {
            return BAD;
        }
        return productions.bitAt(turn, k);
    }

    public int spread() {
        return bitRow.layWord(word.row);
    }

    public int cycle(int n) {
        if (outside(n, 1, CYCLE_MOST)) {
            return BAD;
        }
        return bitRow.doSteps(n, productions);
    }

    public int bit(int i) {
        return bitRow.get(i);
    }

    public int bits(int what) {
        switch (what) {
            case 0: return bitRow.size();
            case 1: return bitRow.turn;
            case 2: return bitRow.ones();
            case 3: return oneIf(bitRow.isStill(productions));
            default: return BAD;
        }
    }

    public int gather() {
        if (bitRow.turn != 0) {
            return STATE;
        }
        if (bitRow.row.size > WORD_MOST) {
            return FULL;
        }
        word.row.become(bitRow.row);
        return word.row.size;
    }

    private static boolean outside(int v, int low, int high) {
        return v < low || v > high;
    }

    private static int oneIf(boolean holds) {
        return holds ? 1 : 0;
    }

    private static int pairOf(int q, int s) {
        return 2 * q + s;
    }

    /** The counters and the program that works them. */
    private static final class Counters {
        private static final int UP = 0, DOWN = 1, STOP = 2;

        private final int[] values = new int[LAST_COUNTER + 1];
        private final int[] ops = new int[LINES_MOST];
        private final int[] worked = new int[LINES_MOST];
        private final int[] onward = new int[LINES_MOST];
        private final int[] ifZero = new int[LINES_MOST];
        private int lines;
        private int now;

        int addLine(int op, int r, int a, int b) {
            if (lines >= LINES_MOST) {
                return FULL;
            }
            ops[lines] = op;
            worked[lines] = r;
            onward[lines] = a;
            ifZero[lines] = b;
            lines++;
            return lines;
        }

        int forgetLines() {
            int had = lines;
            lines = 0;
            now = 0;
            return had;
        }

        int value(int r) {
            return values[r];
        }

        int putValue(int r, int v) {
            int was = values[r];
            values[r] = v;
            return was;
        }

        int lineNow() {
            return now;
        }

        int jump(int line) {
            int was = now;
            now = line;
            return was;
        }

        int doLines(int most) {
            int done = 0;
            while (done < most && doLine()) {
                done++;
            }
            return done;
        }

        private boolean doLine() {
            if (outside(now, 0, lines - 1)) {
                return false;
            }
            switch (ops[now]) {
                case UP: return countUp(worked[now]);
                case DOWN: return countDown(worked[now]);
                default: return false;
            }
        }

        private boolean countUp(int r) {
            if (values[r] >= COUNTER_MOST) {
                return false;
            }
            values[r]++;
            now = onward[now];
            return true;
        }

        private boolean countDown(int r) {
            if (values[r] == 0) {
                now = ifZero[now];
            } else {
                values[r]--;
                now = onward[now];
            }
            return true;
        }
    }

    /** The machine with a tape: its rules, by pair, and its place. */
    private static final class Machine {
        private static final int LEFTWARD = 0, RIGHTWARD = 1;

        private final boolean[] ruled = new boolean[PAIRS];
        private final int[] signs = new int[PAIRS];
        private final int[] ways = new int[PAIRS];
        private final int[] states = new int[PAIRS];
        private int rules;
        private int state;
        private int sign;
        private int left;
        private int right;

        int putRule(int pair, int w, int way, int t) {
            if (!ruled[pair]) {
                ruled[pair] = true;
                rules++;
            }
            signs[pair] = w;
            ways[pair] = way;
            states[pair] = t;
            return rules;
        }

        int dropRule(int pair) {
            if (!ruled[pair]) {
                return 0;
            }
            ruled[pair] = false;
            rules--;
            return 1;
        }

        void putPlace(int q, int s, int m, int n) {
            state = q;
            sign = s;
            left = m;
            right = n;
        }

        boolean isStill() {
            return !ruled[pairOf(state, sign)];
        }

        int doSteps(int most) {
            int done = 0;
            while (done < most && doStep()) {
                done++;
            }
            return done;
        }

        private boolean doStep() {
            if (isStill()) {
                return false;
            }
            int pair = pairOf(state, sign);
            boolean rightward = ways[pair] == RIGHTWARD;
            int behind = 2 * (rightward ? left : right) + signs[pair];
            int ahead = rightward ? right : left;
            if (behind > TAPE_MOST) {
                return false;
            }
            left = rightward ? behind : ahead / 2;
            right = rightward ? ahead / 2 : behind;
            sign = ahead % 2;
            state = states[pair];
            return true;
        }
    }

    /**
     * The productions of all letters, by the rules as they are. They are written out anew when a
     * rule changes, so that a step only looks them up.
     */
    private static final class Productions {
        /** x has number 0; the others stand here in the order that they have in each pair. */
        private static final String SIGNS = "xAaPpBbQqCcDEdeSsTUtu";
        /** As the document writes them: a 1 or 0 behind a sign leads to the next state's pair. */
        private static final String ALWAYS = "Q:Bx q:bx";
        private static final String BOTH_WAYS = "C:DE c:de S:TU s:tu";
        private static final String TO_RIGHT =
            "A:Cx a:cxcx B:S b:s D:A1x E:xA0x d:a1x e:a0x T:B1x U:B0x t:b1x u:b0x";
        private static final String TO_RIGHT_IF_ONE = "A:cx";
        private static final String TO_LEFT =
            "A:Px a:px P:S p:s B:Cx b:cxcx D:Q1x E:xQ0x d:q1x e:q0x T:A1x U:A0x t:a1x u:a0x";
        private static final String TO_LEFT_IF_ONE = "B:cx";
        private static final int LONGEST = 4;

        /** No production is empty, so a size of 0 says that a letter has none. */
        private final int[] sizes = new int[LETTERS];
        private final int[] letters = new int[LETTERS * LONGEST];

        Productions() {
            for (int pair = 0; pair < PAIRS; pair++) {
                followNone(pair);
            }
        }

        void followNone(int pair) {
            for (int kind = 1; kind <= KINDS; kind++) {
                sizes[pair * KINDS + kind] = 0;
            }
            write(ALWAYS, pair, 0);
        }

        void follow(int pair, int w, int way, int t) {
            boolean rightward = way == Machine.RIGHTWARD;
            followNone(pair);
            write(BOTH_WAYS, pair, t);
            write(rightward ? TO_RIGHT : TO_LEFT, pair, t);
            if (w == 1) {
                write(rightward ? TO_RIGHT_IF_ONE : TO_LEFT_IF_ONE, pair, t);
            }
        }

        /** A sign with a colon behind it names the letter to whose production the next ones come. */
        private void write(String text, int pair, int t) {
            int owner = X;
            for (int i = 0; i < text.length(); i++) {
                char behind = i + 1 < text.length() ? text.charAt(i + 1) : ' ';
                int kind = SIGNS.indexOf(text.charAt(i));
                if (behind == ':') {
                    owner = number(kind, pair);
                } else if (kind >= 0) {
                    append(owner, number(kind, pairMarked(behind, pair, t)));
                }
            }
        }

        private static int pairMarked(char mark, int pair, int t) {
            if (mark == '0') {
                return pairOf(t, 0);
            }
            return mark == '1' ? pairOf(t, 1) : pair;
        }

        private static int number(int kind, int pair) {
            return kind <= 0 ? X : pair * KINDS + kind;
        }

        private void append(int owner, int letter) {
            if (sizes[owner] < LONGEST) {
                letters[owner * LONGEST + sizes[owner]] = letter;
                sizes[owner]++;
            }
        }

        /** How many letters the production has; 0 if there is none. */
        int sizeOf(int letter) {
            return outside(letter, 0, LETTERS - 1) ? 0 : sizes[letter];
        }

        int letterAt(int letter, int i) {
            return outside(i, 0, sizeOf(letter) - 1) ? NONE : letters[letter * LONGEST + i];
        }

        /** Appendants are told as productions: only the turns of letters have any. */
        int bitAt(int turn, int k) {
            if (outside(k, 0, sizeOf(turn) * LETTERS - 1)) {
                return NONE;
            }
            return oneIf(letterAt(turn, k / LETTERS) == k % LETTERS);
        }

        void appendTo(LetterRow row, int letter) {
            int from = letter * LONGEST;
            int end = from + sizeOf(letter);
            for (int i = from; i < end; i++) {
                row.append(letters[i]);
            }
        }
    }

    /** A row of letters in a ring, so that taking the first one moves nothing. */
    private static final class LetterRow {
        private final int[] cells;
        private int head;
        private int size;

        LetterRow(int room) {
            cells = new int[Math.max(room, 0)];
        }

        void empty() {
            head = 0;
            size = 0;
        }

        int get(int i) {
            return outside(i, 0, size - 1) ? NONE : cells[wrapped(head + i)];
        }

        void append(int letter) {
            if (size < cells.length) {
                cells[wrapped(head + size)] = letter;
                size++;
            }
        }

        void drop(int many) {
            int dropped = Math.min(many, size);
            head = wrapped(head + dropped);
            size -= dropped;
        }

        void become(LetterRow other) {
            empty();
            for (int i = 0; i < other.size; i++) {
                append(other.get(i));
            }
        }

        private int wrapped(int place) {
            return place < cells.length ? place : place - cells.length;
        }
    }

    /** The word: what a place of the machine is laid as, and what leads from one to the next. */
    private static final class Word {
        private static final int BIG_A = 1, SMALL_A = 2, BIG_B = 5, SMALL_B = 6;

        private final LetterRow row = new LetterRow(WORD_MOST);
        private final LetterRow kept = new LetterRow(WORD_MOST);

        int layPlace(int pair, int m, int n) {
            if (4 + 2 * (m + n) > WORD_MOST) {
                return FULL;
            }
            int first = pair * KINDS;
            row.empty();
            appendTwos(first + BIG_A, 1);
            appendTwos(first + SMALL_A, m);
            appendTwos(first + BIG_B, 1);
            appendTwos(first + SMALL_B, n);
            return row.size;
        }

        private void appendTwos(int letter, int times) {
            for (int i = 0; i < times; i++) {
                row.append(letter);
                row.append(X);
            }
        }

        int addLetter(int letter) {
            if (row.size >= WORD_MOST) {
                return FULL;
            }
            row.append(letter);
            return row.size;
        }

        int doSteps(int most, Productions productions) {
            int done = 0;
            while (done < most && doStep(productions)) {
                done++;
            }
            return done;
        }

        int stepsToPlace(Productions productions) {
            kept.become(row);
            int done = 0;
            while (done < TAG_MOST && doStep(productions)) {
                done++;
                if (middle() != NONE) {
                    return done;
                }
            }
            row.become(kept);
            return STATE;
        }

        private boolean doStep(Productions productions) {
            int first = row.get(0);
            int more = productions.sizeOf(first);
            if (row.size < 2 || more == 0 || row.size - 2 + more > WORD_MOST) {
                return false;
            }
            row.drop(2);
            productions.appendTo(row, first);
            return true;
        }

        int tellPlace(int what) {
            int middle = middle();
            if (middle == NONE) {
                return NONE;
            }
            int pair = row.get(0) / KINDS;
            switch (what) {
                case 0: return pair / 2;
                case 1: return pair % 2;
                case 2: return (middle - 2) / 2;
                default: return (row.size - middle - 2) / 2;
            }
        }

        /** Where the B of a place stands; NONE if no place would be laid as the word. */
        private int middle() {
            int first = row.get(0);
            if (first % KINDS != BIG_A || row.get(1) != X) {
                return NONE;
            }
            int base = first - BIG_A;
            int middle = behindTwos(base + SMALL_A, 2);
            if (row.get(middle) != base + BIG_B || row.get(middle + 1) != X) {
                return NONE;
            }
            return behindTwos(base + SMALL_B, middle + 2) == row.size ? middle : NONE;
        }

        /** What comes behind all the twos of the letter and an x that begin at a place. */
        private int behindTwos(int letter, int from) {
            int i = from;
            while (i < row.size && row.get(i) == letter && row.get(i + 1) == X) {
                i += 2;
            }
            return i;
        }
    }

    /**
     * The bits, kept as the letters that they tell: they come and go by whole letters but for the
     * first letter, of which as many bits are gone as the turn is above a multiple of 121. They
     * stand still at turn 0 alone and with two letters go through a whole turn, so that a first
     * letter is always there at another turn.
     */
    private static final class Bits {
        /** One more than whole letters have room: the first of them may be gone but for a bit. */
        private final LetterRow row = new LetterRow(BITS_MOST / LETTERS + 1);
        private int turn;

        int layWord(LetterRow word) {
            int bits = word.size * LETTERS;
            if (bits > BITS_MOST) {
                return FULL;
            }
            row.become(word);
            turn = 0;
            return bits;
        }

        int size() {
            return row.size * LETTERS - gone();
        }

        private int gone() {
            return turn % LETTERS;
        }

        int get(int i) {
            if (outside(i, 0, size() - 1)) {
                return NONE;
            }
            int place = i + gone();
            return oneIf(row.get(place / LETTERS) == place % LETTERS);
        }

        int ones() {
            boolean firstIsGone = row.size > 0 && row.get(0) < gone();
            return firstIsGone ? row.size - 1 : row.size;
        }

        boolean isStill(Productions productions) {
            return turn == 0 && (row.size < 2 || productions.sizeOf(row.get(0)) == 0);
        }

        int doSteps(int most, Productions productions) {
            int done = 0;
            while (done < most) {
                int steps = take(most - done, productions);
                if (steps <= 0) {
                    return done;
                }
                done += steps;
            }
            return done;
        }

        /** Takes bits of the first letter, its zeros up to the next one at once: how many. */
        private int take(int most, Productions productions) {
            if (isStill(productions)) {
                return 0;
            }
            int gone = gone();
            int one = row.get(0);
            if (gone == one) {
                return takeOne(productions);
            }
            int zeros = gone < one ? one - gone : LETTERS - gone;
            int steps = Math.min(zeros, most);
            pass(steps);
            return steps;
        }

        private int takeOne(Productions productions) {
            if (size() - 1 + productions.sizeOf(turn) * LETTERS > BITS_MOST) {
                return 0;
            }
            productions.appendTo(row, turn);
            pass(1);
            return 1;
        }

        private void pass(int steps) {
            turn += steps;
            if (gone() == 0) {
                row.drop(1);
            }
            if (turn >= TURNS) {
                turn = 0;
            }
        }
    }
}
