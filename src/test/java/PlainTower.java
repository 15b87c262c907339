import java.util.ArrayList;
import java.util.List;

/**
 * What the document says, word by word and as slowly as it comes: each bit is kept and taken by
 * itself, and each production is told anew whenever it is asked for.
 */
final class PlainTower {
    private static final int BAD = -1, STATE = -2, FULL = -3, NONE = -9;

    private final int[] counters = new int[4];
    private final List<int[]> program = new ArrayList<>();
    private int theLine;
    private final int[][] rules = new int[6][];
    private int q;
    private int s;
    private int m;
    private int n;
    private List<Integer> word = new ArrayList<>();
    private boolean[] bits = new boolean[0];
    private int turn;

    private static boolean in(int v, int most) {
        return 0 <= v && v <= most;
    }

    int line(int op, int r, int a, int b) {
        if (!(in(op, 2) && in(r, 3) && in(a, 24) && in(b, 24))) {
            return BAD;
        }
        if (program.size() == 24) {
            return FULL;
        }
        program.add(new int[] {op, r, a, b});
        return program.size();
    }

    int wipe() {
        int had = program.size();
        program.clear();
        theLine = 0;
        return had;
    }

    int set(int r, int v) {
        if (!in(r, 3) || !in(v, 1000)) {
            return BAD;
        }
        int was = counters[r];
        counters[r] = v;
        return was;
    }

    int counter(int r) {
        return in(r, 3) ? counters[r] : BAD;
    }

    int count(int most) {
        if (most < 1 || most > 5000) {
            return BAD;
        }
        for (int done = 0; done < most; done++) {
            if (theLine >= program.size() || program.get(theLine)[0] == 2) {
                return done;
            }
            int[] one = program.get(theLine);
            if (one[0] == 0) {
                if (counters[one[1]] + 1 > 1000) {
                    return done;
                }
                counters[one[1]]++;
                theLine = one[2];
            } else if (counters[one[1]] == 0) {
                theLine = one[3];
            } else {
                counters[one[1]]--;
                theLine = one[2];
            }
        }
        return most;
    }

    int at() {
        return theLine;
    }

    int go(int line) {
        if (!in(line, 24)) {
            return BAD;
        }
        int was = theLine;
        theLine = line;
        return was;
    }

    int rule(int ofQ, int ofS, int w, int way, int t) {
        if (!(in(ofQ, 2) && in(ofS, 1) && in(w, 1) && in(way, 1) && in(t, 2))) {
            return BAD;
        }
        rules[2 * ofQ + ofS] = new int[] {w, way, t};
        int many = 0;
        for (int[] one : rules) {
            many += one == null ? 0 : 1;
        }
        return many;
    }

    int unrule(int ofQ, int ofS) {
        if (!in(ofQ, 2) || !in(ofS, 1)) {
            return BAD;
        }
        int had = rules[2 * ofQ + ofS] == null ? 0 : 1;
        rules[2 * ofQ + ofS] = null;
        return had;
    }

    int place(int newQ, int newS, int newM, int newN) {
        if (!(in(newQ, 2) && in(newS, 1) && in(newM, 100000) && in(newN, 100000))) {
            return BAD;
        }
        q = newQ;
        s = newS;
        m = newM;
        n = newN;
        return 1;
    }

    int move(int most) {
        if (most < 1 || most > 5000) {
            return BAD;
        }
        for (int done = 0; done < most; done++) {
            int[] rule = rules[2 * q + s];
            if (rule == null || 2 * (rule[1] == 1 ? m : n) + rule[0] > 100000) {
                return done;
            }
            if (rule[1] == 1) {
                m = 2 * m + rule[0];
                s = n & 1;
                n = n >> 1;
            } else {
                n = 2 * n + rule[0];
                s = m & 1;
                m = m >> 1;
            }
            q = rule[2];
        }
        return most;
    }

    int where(int what) {
        return in(what, 4) ? new int[] {q, s, m, n, rules[2 * q + s] == null ? 1 : 0}[what] : BAD;
    }

    /** The production with a blank between two letters; "" if there is none. */
    private String told(char sign, int[] rule) {
        if (sign == 'Q') {
            return "B x";
        }
        if (sign == 'q') {
            return "b x";
        }
        if (rule == null) {
            return "";
        }
        boolean one = rule[0] == 1;
        boolean right = rule[1] == 1;
        switch (sign) {
            case 'C': return "D E";
            case 'c': return "d e";
            case 'S': return "T U";
            case 's': return "t u";
            case 'A': return right ? (one ? "C x c x" : "C x") : "P x";
            case 'a': return right ? "c x c x" : "p x";
            case 'P': return right ? "" : "S";
            case 'p': return right ? "" : "s";
            case 'B': return right ? "S" : one ? "C x c x" : "C x";
            case 'b': return right ? "s" : "c x c x";
            case 'D': return right ? "A1 x" : "Q1 x";
            case 'E': return right ? "x A0 x" : "x Q0 x";
            case 'd': return right ? "a1 x" : "q1 x";
            case 'e': return right ? "a0 x" : "q0 x";
            case 'T': return right ? "B1 x" : "A1 x";
            case 'U': return right ? "B0 x" : "A0 x";
            case 't': return right ? "b1 x" : "a1 x";
            default: return right ? "b0 x" : "a0 x";
        }
    }

    private List<Integer> productionOf(int letter) {
        List<Integer> all = new ArrayList<>();
        if (letter == 0) {
            return all;
        }
        int pair = (letter - 1) / 20;
        String text = told("AaPpBbQqCcDEdeSsTUtu".charAt((letter - 1) % 20), rules[pair]);
        for (String one : text.isEmpty() ? new String[0] : text.split(" ")) {
            if (one.equals("x")) {
                all.add(0);
            } else {
                int of = one.length() == 1 ? pair : 2 * rules[pair][2] + one.charAt(1) - '0';
                all.add(20 * of + "AaPpBbQqCcDEdeSsTUtu".indexOf(one.charAt(0)) + 1);
            }
        }
        return all;
    }

    int production(int letter, int i) {
        if (!in(letter, 120)) {
            return BAD;
        }
        List<Integer> all = productionOf(letter);
        return i >= 0 && i < all.size() ? all.get(i) : NONE;
    }

    private static List<Integer> laid(int pair, int m, int n) {
        List<Integer> all = new ArrayList<>();
        all.add(20 * pair + 1);
        all.add(0);
        for (int i = 0; i < m; i++) {
            all.add(20 * pair + 2);
            all.add(0);
        }
        all.add(20 * pair + 5);
        all.add(0);
        for (int i = 0; i < n; i++) {
            all.add(20 * pair + 6);
            all.add(0);
        }
        return all;
    }

    int lay() {
        List<Integer> all = laid(2 * q + s, m, n);
        if (all.size() > 600) {
            return FULL;
        }
        word = all;
        return word.size();
    }

    int add(int letter) {
        if (!in(letter, 120)) {
            return BAD;
        }
        if (word.size() == 600) {
            return FULL;
        }
        word.add(letter);
        return word.size();
    }

    int clear() {
        int had = word.size();
        word.clear();
        return had;
    }

    int letter(int i) {
        return i >= 0 && i < word.size() ? word.get(i) : NONE;
    }

    int length() {
        return word.size();
    }

    private boolean step() {
        if (word.size() < 2 || productionOf(word.get(0)).isEmpty()) {
            return false;
        }
        List<Integer> after = new ArrayList<>(word.subList(2, word.size()));
        after.addAll(productionOf(word.get(0)));
        if (after.size() > 600) {
            return false;
        }
        word = after;
        return true;
    }

    int tag(int most) {
        if (most < 1 || most > 20000) {
            return BAD;
        }
        int done = 0;
        while (done < most && step()) {
            done++;
        }
        return done;
    }

    /** The place that the word would be laid as, found by laying: null if there is none. */
    private int[] placeOfWord() {
        if (word.size() < 4 || word.get(0) == 0) {
            return null;
        }
        int pair = (word.get(0) - 1) / 20;
        int all = (word.size() - 4) / 2;
        int left = 0;
        while (left < all && word.get(2 + 2 * left) == 20 * pair + 2) {
            left++;
        }
        boolean same = laid(pair, left, all - left).equals(word);
        return same ? new int[] {pair / 2, pair % 2, left, all - left} : null;
    }

    int next() {
        List<Integer> was = word;
        for (int done = 1; done <= 20000 && step(); done++) {
            if (placeOfWord() != null) {
                return done;
            }
        }
        word = was;
        return STATE;
    }

    int told(int what) {
        if (!in(what, 3)) {
            return BAD;
        }
        int[] place = placeOfWord();
        return place == null ? NONE : place[what];
    }

    private static boolean[] told(List<Integer> letters) {
        boolean[] all = new boolean[121 * letters.size()];
        for (int i = 0; i < letters.size(); i++) {
            all[121 * i + letters.get(i)] = true;
        }
        return all;
    }

    private boolean[] appendantOf(int ofTurn) {
        return ofTurn < 121 ? told(productionOf(ofTurn)) : new boolean[0];
    }

    int appendant(int ofTurn, int k) {
        if (!in(ofTurn, 241)) {
            return BAD;
        }
        boolean[] all = appendantOf(ofTurn);
        return k >= 0 && k < all.length ? (all[k] ? 1 : 0) : NONE;
    }

    int spread() {
        boolean[] all = told(word);
        if (all.length > 80000) {
            return FULL;
        }
        bits = all;
        turn = 0;
        return bits.length;
    }

    /** The letter that 121 bits tell; NONE if not just one of them is 1. */
    private static int letterTold(boolean[] row, int from) {
        int found = NONE;
        for (int i = 0; i < 121; i++) {
            if (row[from + i] && found != NONE) {
                return NONE;
            }
            found = row[from + i] ? i : found;
        }
        return found;
    }

    private static boolean still(PlainTower x, boolean[] row, int from, int end, int turn) {
        if (turn != 0) {
            return false;
        }
        if (end - from < 242) {
            return true;
        }
        int first = letterTold(row, from);
        return first != NONE && x.productionOf(first).isEmpty();
    }

    int cycle(int most) {
        if (most < 1 || most > 30000) {
            return BAD;
        }
        boolean[] row = new boolean[200000];
        System.arraycopy(bits, 0, row, 0, bits.length);
        int from = 0;
        int end = bits.length;
        int done = 0;
        while (done < most && !still(this, row, from, end, turn)) {
            boolean[] more = row[from] ? appendantOf(turn) : new boolean[0];
            if (end - from - 1 + more.length > 80000) {
                break;
            }
            from++;
            System.arraycopy(more, 0, row, end, more.length);
            end += more.length;
            turn = turn == 241 ? 0 : turn + 1;
            done++;
        }
        bits = java.util.Arrays.copyOfRange(row, from, end);
        return done;
    }

    int bit(int i) {
        return i >= 0 && i < bits.length ? (bits[i] ? 1 : 0) : NONE;
    }

    int bits(int what) {
        int ones = 0;
        for (boolean one : bits) {
            ones += one ? 1 : 0;
        }
        int isStill = still(this, bits, 0, bits.length, turn) ? 1 : 0;
        return in(what, 3) ? new int[] {bits.length, turn, ones, isStill}[what] : BAD;
    }

    int gather() {
        if (turn != 0 || bits.length % 121 != 0) {
            return STATE;
        }
        List<Integer> all = new ArrayList<>();
        for (int from = 0; from < bits.length; from += 121) {
            if (letterTold(bits, from) == NONE) {
                return STATE;
            }
            all.add(letterTold(bits, from));
        }
        if (all.size() > 600) {
            return FULL;
        }
        word = all;
        return word.size();
    }
}
