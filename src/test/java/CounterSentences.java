/** Terms 1 and promises 2 to 8, sentence by sentence. */
final class CounterSentences {
    private static final int UP = 0, DOWN = 1, STOP = 2;

    private CounterSentences() {
    }

    static void all() {
        terms();
        programAndCounters();
        counting();
    }

    private static void terms() {
        Sentence.holds("Terms 1", "COUNTERS 0 .. 3", CounterSentences::fourCounters);
        Sentence.holds("Terms 1", "(0 .. 1000 each, 0 at first).", CounterSentences::countersTo1000);
        Sentence.holds("Terms 1", "THE PROGRAM is at most 24 LINES (OP, r, a, b):",
            CounterSentences::programOf24);
        Sentence.holds("Terms 1", "OP 0 UP: COUNTER r is 1 more, then LINE a.", CounterSentences::up);
        Sentence.holds("Terms 1", "1 DOWN: if COUNTER r is 0, then LINE b;",
            CounterSentences::downAtZero);
        Sentence.holds("Terms 1", "else it is 1 less, then LINE a.", CounterSentences::downAboveZero);
        Sentence.holds("Terms 1", "2 STOP.", CounterSentences::stopOfAnyNumbers);
        Sentence.holds("Terms 1", "THE LINE is the one that is next (0 at first);",
            CounterSentences::lineIsNext);
        Sentence.holds("Terms 1", "a LINE that is not there is like STOP.",
            CounterSentences::lineNotThere);
        Sentence.holds("Terms 1", "THE PROGRAM stands still at a STOP.",
            CounterSentences::standsStillAtStop);
    }

    private static void programAndCounters() {
        Sentence.holds("Promise 2", "A LINE more of THE PROGRAM: how many.",
            CounterSentences::lineTellsHowMany);
        Sentence.holds("Promise 2", "BAD: op (0 .. 2),", CounterSentences::lineOfBadOp);
        Sentence.holds("Promise 2", "r (0 .. 3),", CounterSentences::lineOfBadCounter);
        Sentence.holds("Promise 2", "a, b (0 .. 24;", CounterSentences::lineOfBadLines);
        Sentence.holds("Promise 2", "each looked at always);", CounterSentences::lineLooksAlways);
        Sentence.holds("Promise 2", "FULL: 24.", CounterSentences::lineOfFullProgram);
        Sentence.holds("Promise 3", "THE PROGRAM has no LINES any more,",
            CounterSentences::wipeTakesLines);
        Sentence.holds("Promise 3", "THE LINE is 0:", CounterSentences::wipeGoesToLine0);
        Sentence.holds("Promise 3", "how many it had.", CounterSentences::wipeTellsHowMany);
        Sentence.holds("Promise 4", "A COUNTER becomes v: what it was.", CounterSentences::setTellsOld);
        Sentence.holds("Promise 4", "BAD: r,", CounterSentences::setOfBadCounter);
        Sentence.holds("Promise 4", "v (0 .. 1000).", CounterSentences::setOfBadValue);
        Sentence.holds("Promise 5", "A COUNTER.", CounterSentences::countersAreTold);
        Sentence.holds("Promise 5", "BAD.", CounterSentences::counterThatIsBad);
    }

    private static void counting() {
        Sentence.holds("Promise 6", "n LINES (1 .. 5000) at most are done,",
            CounterSentences::countsAtMostN);
        Sentence.holds("Promise 6", "till THE PROGRAM stands still,",
            CounterSentences::countsTillStill);
        Sentence.holds("Promise 6", "or a COUNTER would be above 1000:",
            CounterSentences::countsTill1000);
        Sentence.holds("Promise 6", "how many.", CounterSentences::countTellsHowMany);
        Sentence.holds("Promise 6", "BAD.", CounterSentences::countOfBadNumber);
        Sentence.holds("Promise 7", "THE LINE (0 .. 24).", CounterSentences::atTellsEveryLine);
        Sentence.holds("Promise 8", "THE LINE becomes another one: what it was.",
            CounterSentences::goTellsOld);
        Sentence.holds("Promise 8", "BAD: 0 .. 24.", CounterSentences::goOfBadLine);
    }

    private static void countersAre(TagTower x, int... want) {
        for (int r = 0; r < want.length; r++) {
            Due.is("counter(" + r + ")", x.counter(r), want[r]);
        }
    }

    private static TagTower withLines(int many) {
        TagTower x = new TagTower();
        for (int i = 0; i < many; i++) {
            x.line(UP, 0, i + 1, 0);
        }
        return x;
    }

    private static void fourCounters() {
        TagTower x = new TagTower();
        for (int r = 0; r < 4; r++) {
            x.set(r, 10 + r);
        }
        countersAre(x, 10, 11, 12, 13);
        Due.is("counter(-1)", x.counter(-1), TagTower.BAD);
        Due.is("counter(4)", x.counter(4), TagTower.BAD);
        for (int r = 0; r < 4; r++) {
            x.line(UP, r, r + 1, 0);
        }
        Due.is("count: up of each", x.count(4), 4);
        countersAre(x, 11, 12, 13, 14);
    }

    private static void countersTo1000() {
        TagTower x = new TagTower();
        countersAre(x, 0, 0, 0, 0);
        for (int r = 0; r < 4; r++) {
            Due.is("set to 1000", x.set(r, 1000), 0);
            Due.is("set to 1001", x.set(r, 1001), TagTower.BAD);
            Due.is("set to -1", x.set(r, -1), TagTower.BAD);
        }
        countersAre(x, 1000, 1000, 1000, 1000);
        Due.is("set to 0", x.set(3, 0), 1000);
        countersAre(x, 1000, 1000, 1000, 0);
    }

    private static void programOf24() {
        TagTower x = withLines(23);
        Due.is("line 24", x.line(UP, 3, 24, 0), 24);
        Due.is("line 25", x.line(UP, 2, 24, 0), TagTower.FULL);
        Due.is("all of them are done", x.count(5000), 24);
        countersAre(x, 23, 0, 0, 1);
    }

    private static void up() {
        for (int r = 0; r < 4; r++) {
            for (int a : new int[] {0, 7, 24}) {
                TagTower x = new TagTower();
                x.line(UP, r, a, 13);
                Due.is("up from 0", x.count(1), 1);
                Due.is("counter", x.counter(r), 1);
                Due.is("then line a", x.at(), a);
                x.go(0);
                x.set(r, 999);
                Due.is("up from 999", x.count(1), 1);
                Due.is("counter", x.counter(r), 1000);
                Due.is("then line a", x.at(), a);
            }
        }
    }

    private static void downAtZero() {
        for (int b : new int[] {0, 7, 24}) {
            TagTower x = new TagTower();
            x.line(DOWN, 2, 13, b);
            Due.is("down at 0", x.count(1), 1);
            Due.is("then line b", x.at(), b);
            countersAre(x, 0, 0, 0, 0);
        }
    }

    private static void downAboveZero() {
        for (int v : new int[] {1, 2, 1000}) {
            for (int a : new int[] {0, 7, 24}) {
                TagTower x = new TagTower();
                x.line(DOWN, 2, a, 13);
                x.set(2, v);
                Due.is("down at " + v, x.count(1), 1);
                Due.is("then line a", x.at(), a);
                countersAre(x, 0, 0, v - 1, 0);
            }
        }
    }

    private static void stopOfAnyNumbers() {
        TagTower x = new TagTower();
        x.line(STOP, 3, 1, 2);
        x.line(UP, 0, 2, 2);
        x.set(3, 5);
        Due.is("a stop is not done", x.count(1), 0);
        Due.is("it leads to no line", x.at(), 0);
        countersAre(x, 0, 0, 0, 5);
    }

    private static void lineIsNext() {
        TagTower x = new TagTower();
        Due.is("at first", x.at(), 0);
        x.line(UP, 0, 1, 0);
        x.line(UP, 1, 0, 0);
        Due.is("lines that are told are not done", x.at(), 0);
        Due.is("count", x.count(1), 1);
        countersAre(x, 1, 0, 0, 0);
        Due.is("the one that is next", x.at(), 1);
        Due.is("count", x.count(1), 1);
        countersAre(x, 1, 1, 0, 0);
        Due.is("the one that is next", x.at(), 0);
    }

    private static void lineNotThere() {
        TagTower x = new TagTower();
        Due.is("of no lines: line 0", x.count(9), 0);
        Due.is("line", x.line(UP, 1, 1, 0), 1);
        Due.is("count to the line behind the last", x.count(9), 1);
        Due.is("at", x.at(), 1);
        Due.is("line 1 is not there", x.count(9), 0);
        Due.is("at", x.at(), 1);
        x.line(UP, 1, 24, 0);
        Due.is("line 1 is there now", x.count(9), 1);
        Due.is("line 24", x.at(), 24);
        Due.is("line 24 is not there", x.count(9), 0);
        x = withLines(24);
        x.go(24);
        Due.is("of 24 lines: line 24", x.count(9), 0);
        x.go(23);
        Due.is("of 24 lines: line 23", x.count(9), 1);
        countersAre(x, 1, 0, 0, 0);
        x.wipe();
        x.go(3);
        Due.is("a line that was there", x.count(9), 0);
        countersAre(x, 1, 0, 0, 0);
    }

    private static void standsStillAtStop() {
        TagTower x = new TagTower();
        x.line(UP, 0, 1, 0);
        x.line(STOP, 0, 0, 0);
        Due.is("count to the stop", x.count(5000), 1);
        Due.is("at the stop", x.at(), 1);
        Due.is("count at the stop", x.count(5000), 0);
        Due.is("at the stop", x.at(), 1);
        countersAre(x, 1, 0, 0, 0);
    }

    private static void lineTellsHowMany() {
        TagTower x = new TagTower();
        for (int i = 1; i <= 24; i++) {
            Due.is("line", x.line(i % 3, i % 4, i, 24 - i), i);
        }
        Due.is("wipe", x.wipe(), 24);
        Due.is("line", x.line(STOP, 0, 0, 0), 1);
    }

    private static void lineOfBadOp() {
        TagTower x = new TagTower();
        Due.badBeside("line: op", 0, 2, op -> x.line(op, 0, 0, 0));
        Due.is("no line is there", x.wipe(), 0);
        Due.takenOn("line: op", 0, 2, op -> x.line(op, 0, 0, 0));
    }

    private static void lineOfBadCounter() {
        TagTower x = new TagTower();
        Due.badBeside("line: r", 0, 3, r -> x.line(UP, r, 0, 0));
        Due.is("no line is there", x.wipe(), 0);
        Due.takenOn("line: r", 0, 3, r -> x.line(UP, r, 0, 0));
    }

    private static void lineOfBadLines() {
        TagTower x = new TagTower();
        Due.badBeside("line: a", 0, 24, a -> x.line(DOWN, 0, a, 0));
        Due.badBeside("line: b", 0, 24, b -> x.line(DOWN, 0, 0, b));
        Due.is("no line is there", x.wipe(), 0);
        Due.takenOn("line: a", 0, 24, a -> x.line(DOWN, 0, a, 0));
        Due.takenOn("line: b", 0, 24, b -> x.line(DOWN, 0, 0, b));
    }

    private static void lineLooksAlways() {
        TagTower x = new TagTower();
        Due.badBeside("line: b of up", 0, 24, b -> x.line(UP, 0, 0, b));
        Due.badBeside("line: r of stop", 0, 3, r -> x.line(STOP, r, 0, 0));
        Due.badBeside("line: a of stop", 0, 24, a -> x.line(STOP, 0, a, 0));
        Due.badBeside("line: b of stop", 0, 24, b -> x.line(STOP, 0, 0, b));
        Due.is("no line is there", x.wipe(), 0);
        Due.takenOn("line: b of up", 0, 24, b -> x.line(UP, 0, 0, b));
        Due.takenOn("line: r of stop", 0, 3, r -> x.line(STOP, r, 0, 0));
        Due.takenOn("line: a of stop", 0, 24, a -> x.line(STOP, 0, a, 0));
        Due.takenOn("line: b of stop", 0, 24, b -> x.line(STOP, 0, 0, b));
    }

    private static void lineOfFullProgram() {
        TagTower x = withLines(23);
        Due.is("the last line that has room", x.line(STOP, 0, 0, 0), 24);
        for (int op = 0; op < 3; op++) {
            Due.is("line of op " + op, x.line(op, 1, 0, 0), TagTower.FULL);
        }
        Due.is("wipe", x.wipe(), 24);
        Due.is("there is room again", x.line(UP, 1, 0, 0), 1);
    }

    private static void wipeTakesLines() {
        for (int many : new int[] {1, 24}) {
            TagTower x = withLines(many);
            x.set(3, 9);
            x.wipe();
            Due.is("nothing is done", x.count(5000), 0);
            countersAre(x, 0, 0, 0, 9);
            Due.is("the next line is the first", x.line(UP, 1, 1, 0), 1);
            Due.is("only that is done", x.count(5000), 1);
            countersAre(x, 0, 1, 0, 9);
        }
    }

    private static void wipeGoesToLine0() {
        for (int line : new int[] {0, 1, 24}) {
            TagTower x = withLines(2);
            x.go(line);
            x.wipe();
            Due.is("at", x.at(), 0);
            x.go(line);
            Due.is("wipe without lines", x.wipe(), 0);
            Due.is("at", x.at(), 0);
        }
    }

    private static void wipeTellsHowMany() {
        for (int many = 0; many <= 24; many++) {
            TagTower x = withLines(many);
            Due.is("wipe", x.wipe(), many);
            Due.is("wipe again", x.wipe(), 0);
        }
        TagTower x = withLines(24);
        x.line(UP, 0, 0, 0);
        Due.is("wipe of a full program", x.wipe(), 24);
    }

    private static void setTellsOld() {
        TagTower x = new TagTower();
        for (int r = 0; r < 4; r++) {
            Due.is("set to 1000", x.set(r, 1000), 0);
            Due.is("set to 0", x.set(r, 0), 1000);
            Due.is("set to 0 again", x.set(r, 0), 0);
            Due.is("set to 1", x.set(r, 1), 0);
            Due.is("counter", x.counter(r), 1);
        }
        countersAre(x, 1, 1, 1, 1);
    }

    private static void setOfBadCounter() {
        TagTower x = new TagTower();
        Due.badBeside("set: r", 0, 3, r -> x.set(r, 7));
        countersAre(x, 0, 0, 0, 0);
        Due.takenOn("set: r", 0, 3, r -> x.set(r, 7));
        countersAre(x, 7, 0, 0, 7);
    }

    private static void setOfBadValue() {
        TagTower x = new TagTower();
        x.set(2, 7);
        Due.badBeside("set: v", 0, 1000, v -> x.set(2, v));
        countersAre(x, 0, 0, 7, 0);
        Due.takenOn("set: v", 0, 1000, v -> x.set(2, v));
        countersAre(x, 0, 0, 1000, 0);
    }

    private static void countersAreTold() {
        TagTower x = new TagTower();
        x.set(0, 1000);
        x.set(3, 1);
        countersAre(x, 1000, 0, 0, 1);
        countersAre(x, 1000, 0, 0, 1);
    }

    private static void counterThatIsBad() {
        TagTower x = new TagTower();
        Due.badBeside("counter", 0, 3, x::counter);
        Due.takenOn("counter", 0, 3, x::counter);
    }

    /** A program that never stands still: down at 0 leads to itself. */
    private static TagTower endless() {
        TagTower x = new TagTower();
        x.line(DOWN, 0, 0, 0);
        return x;
    }

    private static void countsAtMostN() {
        TagTower x = endless();
        for (int n : new int[] {1, 2, 4999, 5000}) {
            Due.is("count(" + n + ")", x.count(n), n);
        }
        x.set(0, 1000);
        Due.is("count(1)", x.count(1), 1);
        Due.is("one line is done", x.counter(0), 999);
        Due.is("count(999)", x.count(999), 999);
        Due.is("999 lines are done", x.counter(0), 0);
    }

    private static void countsTillStill() {
        for (int n : new int[] {23, 24, 25, 5000}) {
            TagTower x = withLines(24);
            Due.is("count(" + n + ") of 24 lines", x.count(n), Math.min(n, 24));
            Due.is("at", x.at(), Math.min(n, 24));
        }
        TagTower x = new TagTower();
        Due.is("count of no lines", x.count(5000), 0);
        x.line(STOP, 0, 0, 0);
        Due.is("count at a stop", x.count(5000), 0);
    }

    private static void countsTill1000() {
        for (int v : new int[] {998, 999, 1000}) {
            TagTower x = new TagTower();
            x.line(UP, 3, 0, 0);
            x.set(3, v);
            Due.is("count from " + v, x.count(5000), 1000 - v);
            countersAre(x, 0, 0, 0, 1000);
            Due.is("at the line that is not done", x.at(), 0);
            Due.is("count again", x.count(1), 0);
            x.set(3, 999);
            Due.is("count with room again", x.count(5000), 1);
        }
        TagTower x = new TagTower();
        x.line(UP, 1, 1, 0);
        x.line(DOWN, 0, 0, 2);
        x.set(0, 5);
        x.set(1, 998);
        Due.is("up, down, up, down", x.count(5000), 4);
        Due.is("at the line that is not done", x.at(), 0);
        countersAre(x, 3, 1000, 0, 0);
        x.go(1);
        Due.is("a full counter stops no down", x.count(1), 1);
        countersAre(x, 2, 1000, 0, 0);
    }

    private static void countTellsHowMany() {
        TagTower x = withLines(3);
        Due.is("count(2)", x.count(2), 2);
        Due.is("count(2) of the one that is left", x.count(2), 1);
        Due.is("count(2) of none", x.count(2), 0);
        countersAre(x, 3, 0, 0, 0);
    }

    private static void countOfBadNumber() {
        TagTower x = endless();
        x.set(0, 1000);
        Due.is("count(0)", x.count(0), TagTower.BAD);
        Due.badBeside("count", 1, 5000, x::count);
        countersAre(x, 1000, 0, 0, 0);
        Due.takenOn("count", 1, 5000, x::count);
        TagTower still = new TagTower();
        Due.badBeside("count that stands still", 1, 5000, still::count);
    }

    private static void atTellsEveryLine() {
        TagTower x = new TagTower();
        Due.is("at of a new object", x.at(), 0);
        for (int line = 24; line >= 0; line--) {
            x.go(line);
            Due.is("at", x.at(), line);
        }
        x.line(UP, 0, 24, 0);
        x.count(1);
        Due.is("at behind all lines", x.at(), 24);
    }

    private static void goTellsOld() {
        TagTower x = new TagTower();
        Due.is("go", x.go(24), 0);
        Due.is("go to the same", x.go(24), 24);
        Due.is("go", x.go(1), 24);
        x.line(UP, 0, 0, 0);
        x.line(UP, 1, 2, 0);
        Due.is("count", x.count(5000), 1);
        countersAre(x, 0, 1, 0, 0);
        Due.is("go", x.go(0), 2);
        Due.is("at", x.at(), 0);
    }

    private static void goOfBadLine() {
        TagTower x = new TagTower();
        x.go(5);
        Due.badBeside("go", 0, 24, x::go);
        Due.is("at", x.at(), 5);
        Due.takenOn("go", 0, 24, x::go);
        Due.is("at", x.at(), 24);
    }
}
