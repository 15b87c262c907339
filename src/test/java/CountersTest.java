/** Promises 2 to 8 in ordinary runs; CounterSentences has the edges. */
public final class CountersTest {
    private static final int UP = 0, DOWN = 1, STOP = 2;

    public static void main(String[] args) {
        lines();
        wipes();
        counts();
        stops();
        goes();
        apart();
        Due.end();
    }

    private static void lines() {
        TagTower x = new TagTower();
        Due.is("line", x.line(UP, 3, 1, 0), 1);
        Due.is("line", x.line(DOWN, 0, 24, 24), 2);
        Due.is("line", x.line(STOP, 2, 0, 0), 3);
        Due.is("a line is not done by being told", x.at(), 0);
        Due.is("a line is not done by being told", x.counter(3), 0);
        Due.is("count: up, then down at 0", x.count(5000), 2);
        Due.is("at: the line for 0", x.at(), 24);
        Due.is("counter 3", x.counter(3), 1);
        Due.is("counter 0", x.counter(0), 0);
    }

    private static void wipes() {
        TagTower x = new TagTower();
        x.line(UP, 2, 1, 0);
        x.line(UP, 2, 2, 0);
        x.count(2);
        Due.is("at", x.at(), 2);
        Due.is("wipe", x.wipe(), 2);
        Due.is("wipe: the line is 0", x.at(), 0);
        Due.is("wipe leaves counters", x.counter(2), 2);
        Due.is("wipe: nothing to do", x.count(1), 0);
        Due.is("wipe again", x.wipe(), 0);
        x.go(7);
        Due.is("wipe without lines", x.wipe(), 0);
        Due.is("the line is 0 all the same", x.at(), 0);
    }

    private static void counts() {
        TagTower x = new TagTower();
        x.line(DOWN, 0, 1, 2);
        x.line(UP, 1, 0, 5);
        x.line(STOP, 0, 0, 0);
        x.set(0, 3);
        Due.is("bad count", x.count(0), TagTower.BAD);
        Due.is("bad count", x.count(-1), TagTower.BAD);
        Due.is("bad count", x.count(5001), TagTower.BAD);
        Due.is("bad counts do nothing", x.counter(0), 3);
        Due.is("count(3)", x.count(3), 3);
        Due.is("at", x.at(), 1);
        Due.is("counter 0", x.counter(0), 1);
        Due.is("counter 1", x.counter(1), 1);
        Due.is("count to the stop", x.count(5000), 4);
        Due.is("at the stop", x.at(), 2);
        Due.is("counter 0", x.counter(0), 0);
        Due.is("counter 1", x.counter(1), 3);
        Due.is("stands still", x.count(5000), 0);
    }

    private static void stops() {
        TagTower x = new TagTower();
        x.line(UP, 0, 5, 0);
        Due.is("a line that is not there", x.count(9), 1);
        Due.is("at", x.at(), 5);
        Due.is("like a stop", x.count(9), 0);
        Due.is("at", x.at(), 5);
        for (int i = 2; i <= 5; i++) {
            Due.is("line", x.line(STOP, 0, 0, 0), i);
        }
        Due.is("still not there", x.count(9), 0);
        Due.is("line", x.line(UP, 3, 24, 0), 6);
        Due.is("now it is there", x.count(9), 1);
        Due.is("counter 3", x.counter(3), 1);
        Due.is("at", x.at(), 24);
        Due.is("24 is never there", x.count(9), 0);
    }

    private static void goes() {
        TagTower x = new TagTower();
        Due.is("go", x.go(24), 0);
        Due.is("at", x.at(), 24);
        Due.is("bad go", x.go(-1), TagTower.BAD);
        Due.is("bad go", x.go(25), TagTower.BAD);
        Due.is("bad goes leave the line", x.at(), 24);
        Due.is("go", x.go(0), 24);
        Due.is("at", x.at(), 0);
        Due.is("go", x.go(1), 0);
        x.line(STOP, 0, 0, 0);
        x.line(DOWN, 0, 2, 3);
        x.line(STOP, 0, 0, 0);
        x.set(0, 1);
        Due.is("count from line 1", x.count(9), 1);
        Due.is("down leads to a", x.at(), 2);
        Due.is("go", x.go(1), 2);
        Due.is("count from line 1", x.count(9), 1);
        Due.is("down at 0 leads to b", x.at(), 3);
        Due.is("counter", x.counter(0), 0);
    }

    /** Each object has counters of its own. */
    private static void apart() {
        TagTower x = new TagTower();
        TagTower y = new TagTower();
        x.set(1, 7);
        x.line(UP, 0, 0, 0);
        x.go(3);
        Due.is("another object", y.counter(1), 0);
        Due.is("another object", y.at(), 0);
        Due.is("another object", y.wipe(), 0);
    }
}
