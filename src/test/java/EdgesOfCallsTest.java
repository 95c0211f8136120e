/** Promises 13 to 17: each sentence that names a boundary case. */
public final class EdgesOfCallsTest {
    private static final int MOST = Integer.MAX_VALUE;
    private static final int LEAST = Integer.MIN_VALUE;

    private static final int CELL = Scene.CELL;
    private static final int TWICE = Scene.TWICE;
    private static final int SHELF = Scene.SHELF;
    private static final int TWICES = Scene.TWICES;
    private static final int ROW = Scene.ROW;
    private static final int EMPTY = Scene.EMPTY;
    private static final int NUMBER = Scene.NUMBER;
    private static final int TO = Scene.TO;

    private static final int[] NONE_OF_TEN = {-1, 10, LEAST, MOST};
    private static final Edges EDGES = new Edges("edges of calls");

    public static void main(String[] args) {
        callGoesIn();
        callAnswers();
        callNoSuch();
        callKinds();
        callFirstRefusal();
        rowLengths();
        rowLeavesOut();
        rowSharesPlaces();
        rowLooksAnew();
        rowCatches();
        rowCounts();
        rowRefused();
        latest();
        started();
        startedRefused();
        share();
        shareOfNone();
        EDGES.end();
    }

    private static void due(String what, long got, long want) {
        EDGES.due(what, got, want);
    }

    private static void callGoesIn() {
        EDGES.sentence("Promise 13: call", "A WORD is called on what a place holds, with what two places hold;");
        Bridge x = Scene.filled();
        x.number(NUMBER, 1, 2);
        due("put on a SHELF, with an INT and a TWICE", x.call(Scene.SHELVE, SHELF, NUMBER, TWICE, TO), 0);
        due("it is in that cell", x.ask(2, 1, SHELF, 2), 5);
        due("the very same", x.same(TO, TWICE), 1);
        due("it is not in another SHELF's", x.give(2, 1, TWICES, NUMBER, 1), -13);
        x.declareOwn(8, 0, 6, 0);
        due("whether a CELL is what the first place holds", x.call(8, CELL, CELL, TWICE, TO), 1);
        due("it is", x.value(TO), 1);
        due("the other place is not looked at", x.call(8, CELL, TWICE, CELL, TO), 1);
        due("it is not", x.value(TO), 0);
    }

    private static void callAnswers() {
        EDGES.sentence("Promise 13: call", "what comes goes into a place: its KIND (0: UNIT, NOTHING); "
            + "-10 less what it THREW.");
        Bridge x = Scene.filled();
        due("UNIT", x.ask(0, 1, CELL, 1), 0);
        due("INT", x.ask(0, 0, CELL, 0), 1);
        due("LONG", x.ask(0, 4, CELL, 0), 2);
        due("REAL", x.ask(0, 5, CELL, 0), 3);
        due("CELL", x.ask(2, 1, SHELF, 0), 4);
        due("TWICE", x.ask(1, 10, TWICE, 0), 5);
        due("TWICE, told as CELL", x.ask(2, 1, SHELF, 1), 5);
        due("TWICE, told as ANY", x.ask(0, 9, CELL, 0), 5);
        due("SHELF", x.ask(3, 2, 0, 0), 6);
        due("SHELF for TWICES", x.ask(3, 3, 0, 0), 6);
        due("INTS", x.ask(3, 4, 0, 0), 7);
        due("NOTHING", x.give(0, 9, TWICE, NUMBER, 1), 0);
        due("THREW 1", x.ask(0, 0, EMPTY, 0), -11);
        due("THREW 2", x.give(3, 6, 0, CELL, 0), -12);
        due("THREW 3", x.ask(2, 1, SHELF, -1), -13);
        due("THREW 4", x.ask(0, 3, CELL, 0), -14);
        due("THREW 5", x.shelve(TWICES, 0, CELL), -15);
        due("THREW 6", x.ask(3, 4, 0, -1), -16);
        for (int word = 0; word < 10; word += 9) {
            Bridge y = Scene.filled();
            y.declareOwn(word, 1, 10, 0);
            due("the WORD " + word + " into place 0", y.call(word, TWICE, 0, 0, 0), 5);
            due("the WORD " + word + " on place 0 into 9", y.call(word, 0, 0, 0, 9), 5);
            due("the WORD " + word + " on place 9", y.call(word, 9, 0, 0, 9), 5);
        }
    }

    private static void callNoSuch() {
        EDGES.sentence("Promise 13: call", "-1: word (also: not DECLARED), places that are looked at, to; -3: KINDS.");
        for (int none : NONE_OF_TEN) {
            EDGES.refusedAlsoAtFirst("WORD " + none, x -> x.call(none, CELL, NUMBER, CELL, TO), -1);
            EDGES.refused("on " + none, x -> x.call(Scene.SHELVE, none, NUMBER, CELL, TO), -1);
            EDGES.refused("a " + none, x -> x.call(Scene.SHELVE, SHELF, none, CELL, TO), -1);
            EDGES.refused("b " + none, x -> x.call(Scene.SHELVE, SHELF, NUMBER, none, TO), -1);
            EDGES.refused("to " + none + ", UNIT", x -> x.call(Scene.SHELVE, SHELF, NUMBER, CELL, none), -1);
            EDGES.refused("to " + none + ", INT", x -> x.call(Scene.ADD, CELL, NUMBER, CELL, none), -1);
            EDGES.refused("to " + none + ", an OBJECT", x -> x.call(Scene.SELF, TWICE, NUMBER, CELL, none), -1);
            EDGES.refused("to " + none + ", of CLASS 3", x -> x.call(Scene.MAKE, 0, NUMBER, CELL, none), -1);
            EDGES.refused("a " + none + ", of CLASS 3", x -> x.call(Scene.MAKE, 0, none, CELL, TO), -1);
            EDGES.refused("on " + none + ", with nothing else", x -> x.call(Scene.SELF, none, 0, 0, TO), -1);
            EDGES.refused("INTS " + none, x -> x.call(Scene.PUT, CELL, none, 0, TO), -1);
        }
        EDGES.refusedAlsoAtFirst("not DECLARED", x -> x.call(Scene.UNDECLARED, CELL, NUMBER, CELL, TO), -1);
        EDGES.refusedAlsoAtFirst("not DECLARED, no place", x -> x.call(Scene.UNDECLARED, 10, 10, 10, 10), -1);
    }

    private static void callKinds() {
        EDGES.sentence("Promise 13: call", "-3: KINDS.");
        EDGES.refused("on a SHELF for a CELL", x -> x.call(Scene.ADD, SHELF, NUMBER, 0, TO), -3);
        EDGES.refused("on a CELL for a TWICE", x -> x.call(Scene.SELF, CELL, 0, 0, TO), -3);
        EDGES.refused("on INTS for a SHELF", x -> x.call(Scene.SHELVE, ROW, NUMBER, CELL, TO), -3);
        EDGES.refused("on a number", x -> x.call(Scene.KEPT, NUMBER, 0, 0, TO), -3);
        EDGES.refused("a LONG for an INT", x -> x.call(Scene.MAKE, 0, Scene.LONG, 0, TO), -3);
        EDGES.refused("a REAL for an INT", x -> x.call(Scene.MAKE, 0, Scene.REAL, 0, TO), -3);
        EDGES.refused("NOTHING for an INT", x -> x.call(Scene.MAKE, 0, EMPTY, 0, TO), -3);
        EDGES.refused("an OBJECT for an INT", x -> x.call(Scene.MAKE, 0, CELL, 0, TO), -3);
        EDGES.refused("an INT for INTS", x -> x.call(Scene.PUT, CELL, NUMBER, 0, TO), -3);
        EDGES.refused("INTS for a CELL", x -> x.call(Scene.SHELVE, SHELF, NUMBER, ROW, TO), -3);
        EDGES.refused("an INT for a CELL", x -> x.call(Scene.SHELVE, SHELF, NUMBER, NUMBER, TO), -3);
        EDGES.refused("two that do not go in", x -> x.call(Scene.SHELVE, SHELF, CELL, NUMBER, TO), -3);
    }

    private static void callFirstRefusal() {
        EDGES.sentence("Terms", "REFUSALS change nothing; of several the first one here:");
        for (int none : NONE_OF_TEN) {
            EDGES.refused("to ahead of KINDS of on", x -> x.call(Scene.ADD, SHELF, NUMBER, 0, none), -1);
            EDGES.refused("to ahead of KINDS of a", x -> x.call(Scene.ADD, CELL, Scene.LONG, 0, none), -1);
            EDGES.refused("to ahead of KINDS of b", x -> x.call(Scene.SHELVE, SHELF, NUMBER, ROW, none), -1);
            EDGES.refused("b ahead of KINDS of a", x -> x.call(Scene.SHELVE, SHELF, EMPTY, none, TO), -1);
            EDGES.refused("b ahead of KINDS of on", x -> x.call(Scene.SHELVE, CELL, NUMBER, none, TO), -1);
            EDGES.refused("a ahead of KINDS of on", x -> x.call(Scene.ADD, ROW, none, 0, TO), -1);
            EDGES.refused("on ahead of KINDS of a", x -> x.call(Scene.ADD, none, EMPTY, 0, TO), -1);
            EDGES.refused("to ahead of what it THROWS", x -> x.call(Scene.ADD, EMPTY, NUMBER, 0, none), -1);
        }
        EDGES.refused("KINDS ahead of what it THROWS", x -> x.call(Scene.ADD, EMPTY, Scene.REAL, 0, TO), -3);
        EDGES.refused("KINDS of b ahead of what it THROWS", x -> x.call(Scene.SHELVE, EMPTY, NUMBER, ROW, TO), -3);
    }

    /** All ten WORDS count what THE MAKER made. */
    private static Bridge tenWords() {
        Bridge x = new Bridge();
        for (int word = 0; word < 10; word++) {
            x.declareOwn(word, 3, 5, 0);
        }
        return x;
    }

    private static void rowLengths() {
        EDGES.sentence("Promise 14: row", "Likewise of up to n WORDS, one behind the other, from a WORD on");
        for (int word = 0; word < 10; word++) {
            for (int n = 1; n <= 10; n++) {
                Bridge x = tenWords();
                String call = "row(" + word + ", " + n + ")";
                due(call, x.row(word, n, 0, 0, 0, 0), Math.min(n, 10 - word));
                for (int w = 0; w < 10; w++) {
                    due("WORD " + w + " by " + call, x.word(w, 4), w >= word && w < word + n ? 1 : 0);
                }
            }
        }
    }

    private static void rowLeavesOut() {
        EDGES.sentence("Promise 14: row", "(a WORD that is not DECLARED is left out)");
        EDGES.refusedIn(Bridge::new, "no WORDS", x -> x.row(0, 10, 0, 0, 0, 0), 0);
        EDGES.refused("the one that is not DECLARED", x -> x.row(Scene.UNDECLARED, 1, CELL, NUMBER, CELL, TO), 0);
        Bridge x = new Bridge();
        x.declareOwn(0, 3, 5, 0);
        x.declareOwn(9, 3, 5, 0);
        due("the first and the last", x.row(0, 10, 0, 0, 0, 0), 2);
        due("those left out are among the n", x.row(0, 9, 0, 0, 0, 0), 1);
        due("the first one is left out", x.row(1, 9, 0, 0, 0, 0), 1);
        due("the first one is left out, and the last not reached", x.row(1, 8, 0, 0, 0, 0), 0);
        due("the last alone", x.row(9, 1, 0, 0, 0, 0), 1);
        due("the first, called", x.word(0, 4), 2);
        due("the last, called", x.word(9, 4), 3);
    }

    private static void rowSharesPlaces() {
        EDGES.sentence("Promise 14: row", "all on what one place holds then, with the same two places "
            + "and the same place for what comes");
        Bridge x = Scene.filled();
        x.declareOwn(0, 2, 0, 0);
        x.declareOwn(1, 2, 1, 0);
        x.declareOwn(2, 2, 2, 0);
        x.number(NUMBER, 1, 2);
        due("put, at and size of one SHELF", x.row(0, 3, SHELF, NUMBER, TWICE, TO), 3);
        due("the last one's came", x.value(TO), 3);
        due("up to at", x.row(0, 2, SHELF, NUMBER, TWICE, TO), 2);
        due("what was put came", x.same(TO, TWICE), 1);
        Bridge y = Scene.filled();
        y.declareOwn(0, 3, 1, 0);
        y.declareOwn(1, 1, 0, 0);
        y.number(NUMBER, 1, 21);
        due("the first one's OBJECT is called on by the next", y.row(0, 2, EMPTY, NUMBER, 0, EMPTY), 2);
        due("its get", y.value(EMPTY), 42);
    }

    private static void rowLooksAnew() {
        EDGES.sentence("Promise 14: row", "(each looks at the places anew);");
        Bridge x = Scene.filled();
        x.declareOwn(0, 0, 2, 0);
        x.declareOwn(1, 0, 2, 0);
        x.declareOwn(2, 0, 3, 0);
        x.number(NUMBER, 1, 3);
        due("what comes goes in", x.row(0, 3, CELL, NUMBER, 0, NUMBER), 3);
        due("1 and 3 is 4, and 4 is 8, 8 by 8", x.value(NUMBER), 1);
        due("V", x.got(CELL), 8);
        Bridge y = Scene.filled();
        y.declareOwn(0, 0, 9, 1);
        y.declareOwn(1, 0, 0, 0);
        y.declareOwn(2, 0, 0, 0);
        due("what comes is called on, then is no CELL", y.row(0, 3, CELL, 0, 0, CELL), 2);
        due("two times 5", y.value(CELL), 10);
        due("the last one was left out", y.word(2, 4), 0);
        Bridge z = Scene.filled();
        z.declareOwn(0, 0, 9, 1);
        z.declareOwn(1, 0, 9, 1);
        z.declareOwn(2, 0, 9, 1);
        due("the last one is called on NOTHING", z.row(0, 3, CELL, 0, 0, CELL), 2);
        due("it THREW", z.word(2, 5), 1);
        due("NOTHING stays", z.kind(CELL), 0);
    }

    private static void rowCatches() {
        EDGES.sentence("Promise 14: row", "what one THROWS is caught, and the next one is called:");
        Bridge x = Scene.filled();
        x.declareOwn(0, 0, 3, 0);
        x.declareOwn(1, 0, 0, 0);
        x.declareOwn(2, 0, 3, 0);
        due("the first and the last THROW", x.row(0, 3, CELL, NUMBER, 0, TO), 1);
        due("the next one's INT came", x.value(TO), 1);
        due("the last one was called", x.word(2, 4), 1);
        due("the last one THREW", x.word(2, 5), 1);
        due("latest", x.latest(), 4);
        Bridge y = new Bridge();
        for (int word = 0; word < 10; word++) {
            y.declareOwn(word, 0, 0, 0);
        }
        due("all ten THROW", y.row(0, 10, 0, 0, 0, 0), 0);
        due("the last one was called", y.word(9, 4), 1);
        due("share", y.share(), 1);
        due("latest", y.latest(), 1);
        y.declareOwn(9, 3, 5, 0);
        due("the last one comes back", y.row(0, 10, 0, 0, 0, 0), 1);
        due("nothing else was THROWN behind it", y.latest(), 1);
    }

    private static void rowCounts() {
        EDGES.sentence("Promise 14: row", "how many came back (WORDS 0 to 9; one that would be refused is left out).");
        Bridge x = Scene.filled();
        x.declareOwn(0, 0, 1, 0);
        x.declareOwn(1, 0, 9, 1);
        x.declareOwn(2, 0, 4, 0);
        x.give(0, 8, CELL, EMPTY, 0);
        due("UNIT, NOTHING and a LONG", x.row(0, 3, CELL, NUMBER, 0, TO), 3);
        due("the LONG came last", x.kind(TO), 2);
        due("all ten", tenWords().row(0, 10, 0, 0, 0, 0), 10);
        for (int none : NONE_OF_TEN) {
            EDGES.refused("to " + none + ": all are left out", y -> y.row(0, 10, CELL, NUMBER, CELL, none), 0);
            EDGES.refused("a " + none + ": it is left out", y -> y.row(Scene.MAKE, 1, CELL, none, CELL, TO), 0);
            EDGES.refused("b " + none + ": it is left out", y -> y.row(Scene.SHELVE, 1, SHELF, NUMBER, none, TO), 0);
            EDGES.refused("on " + none + ": it is left out", y -> y.row(Scene.SELF, 1, none, 0, 0, TO), 0);
        }
        EDGES.refused("KINDS: all are left out", y -> y.row(0, 7, ROW, NUMBER, CELL, TO), 0);
        Bridge y = Scene.filled();
        due("on a CELL: add, kept, THE MAKER's two", y.row(0, 10, CELL, NUMBER, CELL, TO), 4);
        due("INTS were refused", y.word(Scene.PUT, 4), 0);
        due("by 0 was called", y.word(Scene.DIVIDE, 4), 2);
        due("a TWICE's was refused", y.word(Scene.SELF, 4), 0);
    }

    private static void rowRefused() {
        EDGES.sentence("Promise 14: row", "-1: the first word is none of 0 to 9; -2: n not 1 to 10.");
        int[] noLengths = {0, 11, -1, LEAST, MOST};
        for (int word : NONE_OF_TEN) {
            EDGES.refusedAlsoAtFirst("WORD " + word, x -> x.row(word, 10, CELL, NUMBER, CELL, TO), -1);
            for (int n : noLengths) {
                EDGES.refused("WORD " + word + " ahead of n " + n, x -> x.row(word, n, CELL, NUMBER, CELL, TO), -1);
            }
        }
        for (int n : noLengths) {
            EDGES.refusedAlsoAtFirst("n " + n, x -> x.row(0, n, CELL, NUMBER, CELL, TO), -2);
            EDGES.refused("n " + n + " of the last WORD", x -> x.row(9, n, CELL, NUMBER, CELL, TO), -2);
            EDGES.refused("n " + n + ", not DECLARED", x -> x.row(Scene.UNDECLARED, n, CELL, 0, 0, TO), -2);
            EDGES.refused("n " + n + " ahead of no places", x -> x.row(0, n, 10, 10, 10, 10), -2);
        }
    }

    private static void latest() {
        EDGES.sentence("Promise 15: latest", "What was THROWN latest (1 to 6); 0: nothing so far.");
        Bridge x = new Bridge();
        due("at first", x.latest(), 0);
        x.make(0, 1, CELL);
        x.call(Scene.UNDECLARED, 0, 0, 0, 0);
        due("behind what came back and what was refused", x.latest(), 0);
        x.make(4, -1, ROW);
        due("6", x.latest(), 6);
        x.latest();
        due("it stays as it is told", x.latest(), 6);
        x.cell(EMPTY, 0);
        due("1, by cell", x.latest(), 1);
        x.set(CELL, 0, 0);
        due("2, by set", x.latest(), 2);
        x.make(4, 1, ROW);
        x.set(ROW, 1, 0);
        due("3, by set", x.latest(), 3);
        x.ask(0, 3, CELL, 0);
        due("4", x.latest(), 4);
        x.make(3, 1, TWICES);
        x.shelve(TWICES, 0, CELL);
        due("5", x.latest(), 5);
        x.shelve(TWICES, 0, EMPTY);
        due("behind what came back", x.latest(), 5);
        x.call(9, CELL, 0, 0, 0);
        due("behind what was refused", x.latest(), 5);
        x.cell(10, 0);
        x.set(-1, 0, 0);
        due("behind no such place", x.latest(), 5);
    }

    private static void started() {
        EDGES.sentence("Promise 16: started", "Whether a CLASS has STARTED: 0, or as the how-many-th.");
        int[][] orders = {{0, 1, 2, 3}, {3, 2, 1, 0}, {1, 0, 3, 2}, {2, 3, 0, 1}};
        int[][] numbers = {{1, 2, 3, 4}, {3, 4, 2, 1}, {1, 2, 4, 3}, {3, 4, 1, 2}};
        for (int i = 0; i < orders.length; i++) {
            Bridge x = new Bridge();
            for (int cls : orders[i]) {
                due("not so far: " + cls, x.started(cls) > 0 && cls != 0 ? 1 : 0, 0);
                x.give(cls, cls == 3 ? 5 : cls == 2 ? 2 : 0, EMPTY, NUMBER, 0);
                due("now: " + cls, x.started(cls) > 0 ? 1 : 0, 1);
            }
            for (int cls = 0; cls < 4; cls++) {
                due("order " + i + " CLASS " + cls, x.started(cls), numbers[i][cls]);
                x.give(cls, cls == 3 ? 5 : cls == 2 ? 2 : 0, EMPTY, NUMBER, 0);
                due("once alone", x.started(cls), numbers[i][cls]);
            }
        }
    }

    private static void startedRefused() {
        EDGES.sentence("Promise 16: started", "as the how-many-th. -1.");
        int[] noClasses = {-1, 4, LEAST, MOST};
        for (int cls : noClasses) {
            EDGES.refusedAlsoAtFirst("CLASS " + cls, x -> x.started(cls), -1);
        }
        due("the first CLASS", new Bridge().started(0), 0);
        due("the last CLASS", new Bridge().started(3), 0);
    }

    private static void share() {
        EDGES.sentence("Promise 17: share", "How often WORDS were called by how often one THREW, of all, cut.");
        Bridge x = new Bridge();
        x.declareOwn(0, 3, 5, 0);
        x.declareOwn(1, 0, 0, 0);
        int[][] steps = {{1, 1}, {0, 2}, {1, 1}, {0, 2}, {0, 2}, {1, 2}, {0, 2}, {0, 2}, {0, 3}};
        for (int[] step : steps) {
            x.call(step[0], EMPTY, 0, 0, 0);
            due("behind a call of " + step[0], x.share(), step[1]);
        }
        x.declareOwn(1, 3, 5, 0);
        x.declareOwn(0, 3, 5, 0);
        due("WORDS that were something else count", x.share(), 3);
        x.call(2, 0, 0, 0, 0);
        x.call(0, 0, 0, 0, 10);
        x.cell(EMPTY, 0);
        x.set(EMPTY, 0, 0);
        due("refusals, cell and set do not", x.share(), 3);
        Bridge y = tenWords();
        y.declareOwn(9, 0, 0, 0);
        y.call(9, EMPTY, 0, 0, 0);
        y.declareOwn(9, 3, 5, 0);
        due("one of one", y.share(), 1);
        for (int i = 0; i < 400; i++) {
            y.row(0, 10, 0, 0, 0, 0);
        }
        due("one of 4001", y.share(), 4001);
    }

    private static void shareOfNone() {
        EDGES.sentence("Promise 17: share", "ArithmeticException: none did.");
        EDGES.refusedIn(Bridge::new, "at first", Bridge::share, -1);
        EDGES.refusedIn(EdgesOfCallsTest::calledOnce, "called, but none THREW", Bridge::share, -1);
        Bridge x = calledOnce();
        x.cell(EMPTY, 0);
        x.set(EMPTY, 0, 0);
        x.call(0, 0, 0, 0, 10);
        due("cell and set THREW, and a call was refused", x.share(), -1);
        x.ask(0, 0, EMPTY, 0);
        due("one did", x.share(), 2);
    }

    private static Bridge calledOnce() {
        Bridge x = new Bridge();
        x.declareOwn(0, 3, 5, 0);
        x.call(0, 0, 0, 0, 1);
        return x;
    }
}
