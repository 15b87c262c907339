/**
 * All promises together: long runs of calls, each asked of a TagTower and of a PlainTower. The runs
 * are the same each time, for the numbers come from a seed.
 */
public final class LongRunsTest {
    private static final int RUNS = 400;
    private static final int CALLS = 480;

    private final TagTower x = new TagTower();
    private final PlainTower y = new PlainTower();
    private final int run;
    private long seed;

    private LongRunsTest(int run) {
        this.run = run;
        seed = 7919L * run + 17;
    }

    public static void main(String[] args) {
        for (int run = 0; run < RUNS && Due.wrongSoFar() < 20; run++) {
            new LongRunsTest(run).all();
        }
        Due.end();
    }

    private int any(int below) {
        seed = seed * 6364136223846793005L + 1442695040888963407L;
        return (int) ((seed >>> 33) % below);
    }

    /** Mostly 0 to most, now and then something beside it. */
    private int about(int most) {
        int kind = any(60);
        if (kind == 0) {
            return -1;
        }
        if (kind == 1) {
            return most + 1;
        }
        if (kind == 2) {
            return any(2) == 0 ? Integer.MIN_VALUE : Integer.MAX_VALUE;
        }
        return kind == 3 ? most : any(most + 1);
    }

    private int steps(int most) {
        int kind = any(30);
        if (kind == 0) {
            return any(2) == 0 ? 0 : -any(50);
        }
        if (kind == 1) {
            return most + any(2);
        }
        return kind < 5 ? 1 + any(most) : 1 + any(Math.min(most, 600));
    }

    private void all() {
        if (any(4) > 0) {
            for (int i = 0; i < 6; i++) {
                tellRule();
            }
        }
        for (int call = 0; call < CALLS; call++) {
            switch (any(4 + run % 3)) {
                case 0: counters(); break;
                case 1: machine(); break;
                case 2: case 4: word(); break;
                default: bits(); break;
            }
        }
    }

    private void due(String call, int got, int want) {
        Due.is("run " + run + ": " + call, got, want);
    }

    private void counters() {
        int a = about(24);
        int b = about(24);
        int r = about(3);
        switch (any(12)) {
            case 0: case 1: case 2: case 3:
                int op = any(7) == 0 ? 2 : about(1);
                due("line", x.line(op, r, a, b), y.line(op, r, a, b));
                break;
            case 4:
                if (any(5) == 0) {
                    due("wipe", x.wipe(), y.wipe());
                }
                break;
            case 5:
                int v = about(1000);
                due("set", x.set(r, v), y.set(r, v));
                break;
            case 6: case 7: due("counter", x.counter(r), y.counter(r)); break;
            case 8: case 9:
                int n = steps(5000);
                due("count", x.count(n), y.count(n));
                break;
            case 10: due("at", x.at(), y.at()); break;
            default: due("go", x.go(a), y.go(a)); break;
        }
    }

    private void tellRule() {
        int q = about(2);
        int s = about(1);
        int w = about(1);
        int way = about(1);
        int t = about(2);
        due("rule", x.rule(q, s, w, way, t), y.rule(q, s, w, way, t));
    }

    private void machine() {
        int q = about(2);
        int s = about(1);
        switch (any(10)) {
            case 0: tellRule(); break;
            case 1:
                if (any(3) == 0) {
                    due("unrule", x.unrule(q, s), y.unrule(q, s));
                }
                break;
            case 2: case 3:
                int most = any(4) == 0 ? 100000 : any(3) == 0 ? 298 : 25;
                int m = about(most);
                int n = most == 298 && m >= 0 && m <= 298 ? 298 - m : about(most);
                due("place", x.place(q, s, m, n), y.place(q, s, m, n));
                break;
            case 4: case 5:
                int many = steps(5000);
                due("move", x.move(many), y.move(many));
                break;
            default:
                int what = about(4);
                due("where", x.where(what), y.where(what));
                break;
        }
    }

    private void word() {
        int letter = about(120);
        int i = any(3) == 0 ? about(600) : about(30);
        switch (any(16)) {
            case 0: case 1: due("production", x.production(letter, any4(i)), y.production(letter, any4(i))); break;
            case 2: case 3: due("lay", x.lay(), y.lay()); break;
            case 4: due("add", x.add(letter), y.add(letter)); break;
            case 5:
                if (any(8) == 0) {
                    due("clear", x.clear(), y.clear());
                }
                break;
            case 6: case 7: due("letter", x.letter(i), y.letter(i)); break;
            case 8: due("length", x.length(), y.length()); break;
            case 9: case 10:
                int n = any(3) == 0 ? 1 + any(5) : steps(20000);
                due("tag", x.tag(n), y.tag(n));
                break;
            case 11: case 12: due("next", x.next(), y.next()); break;
            default:
                int what = about(3);
                due("told", x.told(what), y.told(what));
                break;
        }
    }

    private static int any4(int i) {
        return i > 0 && i <= 600 ? i % 5 : i;
    }

    private void bits() {
        int turn = about(241);
        int i = any(3) == 0 ? about(80000) : about(1500);
        switch (any(14)) {
            case 0: due("appendant", x.appendant(turn, i % 500), y.appendant(turn, i % 500)); break;
            case 1: case 2: due("spread", x.spread(), y.spread()); break;
            case 3: case 4: case 5:
                int n = any(2) == 0 ? 242 * (1 + any(123)) : steps(30000);
                due("cycle", x.cycle(n), y.cycle(n));
                break;
            case 6: case 7: case 8: due("bit", x.bit(i), y.bit(i)); break;
            case 9: case 10: case 11:
                int what = about(3);
                due("bits", x.bits(what), y.bits(what));
                break;
            case 12: due("first bit", x.bit(0), y.bit(0)); break;
            default: due("gather", x.gather(), y.gather()); break;
        }
    }
}
