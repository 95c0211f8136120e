/** Promises 13 to 17: calls of WORDS, one or many, and what is told of them. */
public final class CallsTest {
    private static final long NOTHING = JavaBridge.NOTHING;
    private static final int CELL = 1;
    private static final int TWICE = 2;
    private static final int SHELF = 3;
    private static final int TWICES_SHELF = 4;
    private static final int ROW = 5;
    private static final int NUMBER = 6;
    private static final int CAME = 7;
    private static final int EMPTY = 9;
    private static final Check CHECK = new Check("calls");

    public static void main(String[] args) {
        refused();
        numbersOfCells();
        edgesOfNumbers();
        divide();
        sameAndKept();
        putIntoRows();
        shelves();
        sums();
        firsts();
        maker();
        casts();
        throwsKeepWhatWasDone();
        row();
        rowLeavesOut();
        latest();
        started();
        share();
        CHECK.end();
    }

    private static void due(String what, long got, long want) {
        CHECK.due(what, got, want);
    }

    /** A CELL and a TWICE with V 3, two SHELVES and INTS of 3 cells, made by word 9. */
    private static JavaBridge filled() {
        JavaBridge x = new JavaBridge();
        int[] comes = {4, 5, 6, 6, 7};
        x.number(NUMBER, 1, 3);
        for (int m = 0; m < 5; m++) {
            x.declare(9, 3, m, 1, 0, comes[m], 0);
            x.call(9, 0, NUMBER, 0, CELL + m);
        }
        return x;
    }

    /** Calls a MEMBER, DECLARED as its KINDS are, with the INT n at hand. */
    private static int call(JavaBridge x, int cls, int m, int on, long n) {
        return callAs(x, cls, m, on, x.member(cls, m, 2), n);
    }

    private static int callAs(JavaBridge x, int cls, int m, int on, int out, long n) {
        x.declare(0, cls, m, x.member(cls, m, 0), x.member(cls, m, 1), out, 0);
        x.number(NUMBER, 1, n);
        return x.call(0, on, NUMBER, NUMBER, CAME);
    }

    /** Calls a MEMBER that takes what a place holds. */
    private static int callWith(JavaBridge x, int cls, int m, int on, int a, int marks) {
        x.declare(0, cls, m, x.member(cls, m, 0), 0, x.member(cls, m, 2), marks);
        return x.call(0, on, a, 0, CAME);
    }

    private static int put(JavaBridge x, int shelf, long i, int what) {
        x.declare(0, 2, 0, 1, 4, 0, 0);
        x.number(NUMBER, 1, i);
        return x.call(0, shelf, NUMBER, what, CAME);
    }

    private static void refused() {
        JavaBridge x = filled();
        due("13: not DECLARED", x.call(1, 0, 0, 0, 0), -1);
        due("13: word 10", x.call(10, 0, 0, 0, 0), -1);
        due("13: word -1", x.call(-1, 0, 0, 0, 0), -1);
        x.declare(1, 2, 0, 1, 4, 0, 0);
        x.number(NUMBER, 1, 0);
        due("13: on 10", x.call(1, 10, NUMBER, CELL, CAME), -1);
        due("13: a -1", x.call(1, SHELF, -1, CELL, CAME), -1);
        due("13: b 10", x.call(1, SHELF, NUMBER, 10, CAME), -1);
        due("13: to 10, also for UNIT", x.call(1, SHELF, NUMBER, CELL, 10), -1);
        due("13: to ahead of KINDS", x.call(1, CELL, CELL, CELL, -1), -1);
        due("13: on another OBJECT", x.call(1, CELL, NUMBER, CELL, CAME), -3);
        due("13: on a number", x.call(1, NUMBER, NUMBER, CELL, CAME), -3);
        due("13: an OBJECT for INT", x.call(1, SHELF, CELL, CELL, CAME), -3);
        due("13: NOTHING for INT", x.call(1, SHELF, EMPTY, CELL, CAME), -3);
        due("13: a SHELF for CELL", x.call(1, SHELF, NUMBER, SHELF, CAME), -3);
        due("13: a number for CELL", x.call(1, SHELF, NUMBER, NUMBER, CAME), -3);
        x.number(8, 2, 0);
        due("13: a LONG for INT", x.call(1, SHELF, 8, CELL, CAME), -3);
        due("13: KINDS ahead of NOTHING", x.call(1, EMPTY, 8, CELL, CAME), -3);
        due("13: none of these was a call", x.word(1, 4), 0);
        due("13: no CLASS STARTED by them", x.started(2), 0);
        due("13: nothing was THROWN", x.latest(), 0);
        due("13: on NOTHING", x.call(1, EMPTY, NUMBER, CELL, CAME), -11);
        due("13: a CELL for class 1", call(x, 1, 0, CELL, 0), -3);
        due("13: INTS for class 0", call(x, 0, 0, ROW, 0), -3);
        x.declare(1, 3, 5, 0, 0, 1, 0);
        due("13: places that are not looked at", x.call(1, 77, -5, 99, CAME), 1);
        x.declare(1, 0, 0, 0, 0, 1, 0);
        due("13: places that are not looked at", x.call(1, CELL, -5, 99, CAME), 1);
    }

    private static void numbersOfCells() {
        JavaBridge x = filled();
        due("13: get", call(x, 0, 0, CELL, 0), 1);
        due("13: it came", x.value(CAME), 3);
        due("13: get of a TWICE", call(x, 0, 0, TWICE, 0), 1);
        due("13: it came", x.value(CAME), 6);
        x.number(CAME, 2, 55);
        due("13: set", call(x, 0, 1, TWICE, 5), 0);
        due("13: UNIT: the place stays", x.value(CAME), 55);
        due("13: add", call(x, 1, 2, TWICE, -1), 1);
        due("13: what get is then", x.value(CAME), 8);
        due("13: add", call(x, 0, 2, CELL, 4), 1);
        due("13: what get is then", x.value(CAME), 7);
        due("13: wide", call(x, 0, 4, TWICE, 0), 2);
        due("13: it came", x.value(CAME), 8000000056L);
        due("13: half", call(x, 0, 5, CELL, 0), 3);
        due("13: it came", x.value(CAME), Double.doubleToRawLongBits(3.5));
        due("13: self", call(x, 1, 10, TWICE, 0), 5);
        due("13: it", x.same(CAME, TWICE), 1);
    }

    private static void edgesOfNumbers() {
        JavaBridge x = filled();
        call(x, 0, 1, CELL, Integer.MAX_VALUE);
        call(x, 0, 2, CELL, 1);
        due("13: add goes round", x.value(CAME), Integer.MIN_VALUE);
        call(x, 0, 4, CELL, 0);
        due("13: widest", x.value(CAME), -2147483648L * 1000000007L);
        call(x, 0, 5, CELL, 0);
        due("13: half of the least", x.value(CAME), Double.doubleToRawLongBits(-1073741824.0));
        call(x, 0, 3, CELL, -1);
        due("13: the least by -1", x.value(CAME), Integer.MIN_VALUE);
        call(x, 0, 1, TWICE, 1 << 30);
        call(x, 0, 0, TWICE, 0);
        due("13: two times goes round", x.value(CAME), Integer.MIN_VALUE);
        int[] values = {0, 1, -1, 5, -5, Integer.MAX_VALUE, Integer.MIN_VALUE + 1};
        for (int v : values) {
            call(x, 0, 1, CELL, v);
            call(x, 0, 5, CELL, 0);
            due("13: half of " + v, x.value(CAME), Double.doubleToRawLongBits(v / 2.0));
        }
    }

    private static void divide() {
        JavaBridge x = filled();
        call(x, 0, 1, CELL, -7);
        due("13: divide", call(x, 0, 3, CELL, 2), 1);
        due("13: cut", x.value(CAME), -3);
        due("13: by 0", call(x, 0, 3, CELL, 0), -14);
        due("13: nothing goes into the place", x.value(CAME), -3);
        due("13: NOTHING by 0", call(x, 0, 3, EMPTY, 0), -11);
        due("13: of a TWICE", call(x, 1, 3, TWICE, 4), 1);
        due("13: get is looked at", x.value(CAME), 1);
    }

    private static void sameAndKept() {
        JavaBridge x = filled();
        due("13: same", callWith(x, 0, 6, CELL, CELL, 0), 1);
        due("13: it is", x.value(CAME), 1);
        callWith(x, 0, 6, CELL, TWICE, 0);
        due("13: it is not", x.value(CAME), 0);
        callWith(x, 0, 6, CELL, EMPTY, 0);
        due("13: NOTHING is not", x.value(CAME), 0);
        due("13: nothing kept so far", call(x, 0, 9, CELL, 0), -11);
        int[] objects = {CELL, TWICE, SHELF, ROW};
        for (int object : objects) {
            due("13: keep", callWith(x, 0, 8, CELL, object, 0), 0);
            due("13: kept", call(x, 0, 9, CELL, 0), x.kind(object));
            due("13: the very same", x.same(CAME, object), 1);
        }
        due("13: a number is not kept", callWith(x, 0, 8, CELL, NUMBER, 0), -3);
        due("13: keep nothing", callWith(x, 0, 8, CELL, EMPTY, 0), 0);
        due("13: nothing, no MAY", call(x, 0, 9, CELL, 0), -11);
        due("13: then the place stays", x.kind(CAME), 7);
        x.declare(0, 0, 9, 0, 0, 4, 1);
        due("13: nothing, MAY", x.call(0, CELL, 0, 0, CAME), 0);
        due("13: then NOTHING came", x.kind(CAME), 0);
        due("13: the place it is called on gets what comes", callWith(x, 0, 8, CELL, TWICE, 0), 0);
        x.declare(0, 0, 9, 0, 0, 8, 0);
        due("13: kept", x.call(0, CELL, 0, 0, CELL), 5);
        due("13: it is there", x.same(CELL, TWICE), 1);
    }

    private static void putIntoRows() {
        JavaBridge x = filled();
        due("13: V behind the row", callWith(x, 0, 7, CELL, ROW, 0), -13);
        due("13: no row", callWith(x, 0, 7, CELL, EMPTY, 0), -11);
        due("13: no row, COPY", callWith(x, 0, 7, CELL, EMPTY, 2), -11);
        due("13: no INTS", callWith(x, 0, 7, CELL, SHELF, 0), -3);
        call(x, 0, 1, TWICE, 2);
        due("13: put as a twin", callWith(x, 0, 7, TWICE, ROW, 2), 1);
        due("13: V", x.value(CAME), 2);
        due("13: the row stays", x.cell(ROW, 2), 0);
        due("13: put", callWith(x, 1, 7, TWICE, ROW, 0), 1);
        due("13: V, not get", x.value(CAME), 2);
        due("13: get is put", x.cell(ROW, 2), 4);
        call(x, 0, 1, TWICE, -1);
        due("13: V ahead of the row", callWith(x, 1, 7, TWICE, ROW, 0), -13);
        call(x, 0, 1, TWICE, 3);
        due("13: the twin is as long as the row", callWith(x, 1, 7, TWICE, ROW, 2), -13);
    }

    private static void shelves() {
        JavaBridge x = filled();
        due("13: size", call(x, 2, 2, SHELF, 0), 1);
        due("13: 3 cells", x.value(CAME), 3);
        due("13: nothing at first", call(x, 2, 1, SHELF, 0), -11);
        due("13: put a TWICE", put(x, SHELF, 2, TWICE), 0);
        due("13: put a CELL", put(x, SHELF, 0, CELL), 0);
        due("13: at", call(x, 2, 1, SHELF, 2), 5);
        due("13: the very same", x.same(CAME, TWICE), 1);
        due("13: at", call(x, 2, 1, SHELF, 0), 4);
        due("13: put nothing", put(x, SHELF, 0, EMPTY), 0);
        due("13: it is nothing then", call(x, 2, 1, SHELF, 0), -11);
        due("13: put behind the end", put(x, SHELF, 3, CELL), -13);
        due("13: put ahead of the start", put(x, SHELF, -1, CELL), -13);
        due("13: at behind the end", call(x, 2, 1, SHELF, 3), -13);
        due("13: at ahead of the start", call(x, 2, 1, SHELF, -1), -13);
        due("13: a CELL among TWICES", put(x, TWICES_SHELF, 0, CELL), -15);
        due("13: it was not put", call(x, 2, 1, TWICES_SHELF, 0), -11);
        due("13: the index ahead of the store", put(x, TWICES_SHELF, 3, CELL), -13);
        due("13: a TWICE among TWICES", put(x, TWICES_SHELF, 0, TWICE), 0);
        due("13: at", call(x, 2, 1, TWICES_SHELF, 0), 5);
        due("13: nothing among TWICES", put(x, TWICES_SHELF, 0, EMPTY), 0);
        due("13: it is nothing then", call(x, 2, 1, TWICES_SHELF, 0), -11);
        due("13: on NOTHING", put(x, EMPTY, 0, CELL), -11);
    }

    private static void sums() {
        JavaBridge x = filled();
        due("13: sum of nothings", call(x, 2, 3, SHELF, 0), -11);
        put(x, SHELF, 0, CELL);
        put(x, SHELF, 1, TWICE);
        due("13: one is nothing", call(x, 2, 3, SHELF, 0), -11);
        put(x, SHELF, 2, TWICE);
        due("13: sum", call(x, 2, 3, SHELF, 0), 1);
        due("13: get of all", x.value(CAME), 15);
        call(x, 0, 1, CELL, Integer.MAX_VALUE);
        call(x, 2, 3, SHELF, 0);
        due("13: sum goes round", x.value(CAME), Integer.MAX_VALUE + 12);
        call(x, 3, 2, 0, 0);
        x.move(SHELF, CAME);
        due("13: sum of no cells", call(x, 2, 3, SHELF, 0), 1);
        due("13: is 0", x.value(CAME), 0);
        due("13: size of no cells", call(x, 2, 2, SHELF, 0), 1);
        due("13: is 0", x.value(CAME), 0);
    }

    private static void firsts() {
        JavaBridge x = filled();
        x.set(ROW, 0, 3);
        due("13: no row", callWith(x, 2, 4, SHELF, EMPTY, 0), -11);
        due("13: a cell is nothing", callWith(x, 2, 4, SHELF, ROW, 0), -11);
        put(x, SHELF, 0, TWICE);
        due("13: first", callWith(x, 2, 4, SHELF, ROW, 0), 1);
        due("13: by V, and no further", x.value(CAME), 0);
        x.set(ROW, 0, 6);
        due("13: the next one is nothing", callWith(x, 2, 4, SHELF, ROW, 0), -11);
        put(x, SHELF, 1, CELL);
        put(x, SHELF, 2, CELL);
        due("13: none", callWith(x, 2, 4, SHELF, ROW, 0), 1);
        due("13: is -1", x.value(CAME), -1);
        call(x, 0, 1, CELL, 6);
        due("13: first, of a twin", callWith(x, 2, 4, SHELF, ROW, 2), 1);
        due("13: the least number", x.value(CAME), 1);
        call(x, 3, 4, 0, 0);
        due("13: a row of no cells", callWith(x, 2, 4, SHELF, CAME, 0), -13);
        call(x, 3, 4, 0, 0);
        due("13: a twin of no cells", callWith(x, 2, 4, SHELF, CAME, 2), -13);
        call(x, 3, 2, 0, 0);
        x.move(SHELF, CAME);
        due("13: a SHELF of no cells", callWith(x, 2, 4, SHELF, ROW, 0), 1);
        due("13: is -1", x.value(CAME), -1);
    }

    private static void maker() {
        JavaBridge x = filled();
        call(x, 3, 5, 0, 0);
        due("13: made", x.value(CAME), 5);
        for (int m = 2; m < 5; m++) {
            due("13: a length below 0", call(x, 3, m, 0, -1), -16);
            due("13: a length of 0", call(x, 3, m, 0, 0), m == 4 ? 7 : 6);
        }
        call(x, 3, 5, 0, 0);
        due("13: made, without those that THREW", x.value(CAME), 8);
        call(x, 3, 4, 0, 17);
        due("13: 16 cells at most", x.cell(CAME, 15), 0);
        due("13: 16 cells at most", x.cell(CAME, 16), NOTHING);
        call(x, 3, 2, 0, Integer.MAX_VALUE);
        x.move(SHELF, CAME);
        call(x, 2, 2, SHELF, 0);
        due("13: 16 cells at most", x.value(CAME), 16);
        callWith(x, 0, 7, CELL, ROW, 2);
        x.declare(0, 3, 5, 0, 0, 1, 4);
        x.call(0, 0, 0, 0, CAME);
        due("13: a twin is not made by it", x.value(CAME), 10);
    }

    private static void casts() {
        JavaBridge x = filled();
        due("13: as", callWith(x, 3, 6, 0, TWICE, 0), 5);
        due("13: that", x.same(CAME, TWICE), 1);
        due("13: as, of a CELL", callWith(x, 3, 6, 0, CELL, 0), -12);
        due("13: as, of a SHELF, MAY", callWith(x, 3, 6, 0, SHELF, 1), -12);
        due("13: as, of NOTHING", callWith(x, 3, 6, 0, EMPTY, 0), -11);
        due("13: as, of NOTHING, MAY", callWith(x, 3, 6, 0, EMPTY, 1), 0);
        due("13: as, of a number", callWith(x, 3, 6, 0, NUMBER, 1), -3);
        int[] objects = {CELL, TWICE, SHELF, ROW};
        for (int object : objects) {
            callWith(x, 0, 8, CELL, object, 0);
            int kind = x.kind(object);
            for (int out = 4; out <= 8; out++) {
                boolean is = out == 8 || out == kind || (out == 4 && kind == 5);
                due("13: " + kind + " cast to " + out, callAs(x, 0, 9, CELL, out, 0), is ? kind : -12);
            }
        }
        put(x, SHELF, 0, CELL);
        put(x, SHELF, 1, TWICE);
        due("13: at, cast", callAs(x, 2, 1, SHELF, 5, 0), -12);
        due("13: at, cast", callAs(x, 2, 1, SHELF, 5, 1), 5);
        due("13: at, nothing is not cast", callAs(x, 2, 1, SHELF, 5, 2), -11);
    }

    private static void throwsKeepWhatWasDone() {
        JavaBridge x = filled();
        x.move(CAME, TWICE);
        due("13: a new CELL is no TWICE", callAs(x, 3, 0, 0, 5, 1), -12);
        due("13: nothing goes into the place", x.same(CAME, TWICE), 1);
        call(x, 3, 5, 0, 0);
        due("13: but it was made", x.value(CAME), 6);
    }

    private static void row() {
        JavaBridge x = filled();
        x.declare(0, 0, 2, 1, 0, 1, 0);
        x.declare(1, 0, 3, 1, 0, 1, 0);
        x.declare(2, 0, 0, 0, 0, 1, 0);
        x.number(NUMBER, 1, 0);
        due("14: two of three come back", x.row(0, 3, CELL, NUMBER, 0, CAME), 2);
        due("14: what was THROWN is told", x.latest(), 4);
        due("14: what came last", x.value(CAME), 3);
        due("14: it was called", x.word(1, 4), 1);
        due("14: it THREW", x.word(1, 5), 1);
        due("14: up to n", x.row(0, 1, CELL, NUMBER, 0, CAME), 1);
        due("14: no further", x.word(2, 4), 1);
        due("14: each looks anew: add doubles what came", x.row(0, 1, CELL, NUMBER, 0, NUMBER), 1);
        due("14: V", x.value(NUMBER), 3);
        due("14: 6 by 3, then 6", x.row(0, 3, CELL, NUMBER, 0, NUMBER), 3);
        due("14: get", x.value(NUMBER), 6);
        due("14: the first one's CELL is gone for the next", x.row(0, 2, CELL, NUMBER, 0, CELL), 1);
        JavaBridge y = filled();
        y.declare(0, 0, 8, 8, 0, 0, 0);
        y.declare(1, 0, 9, 0, 0, 8, 1);
        due("14: UNIT and NOTHING come back, too", y.row(0, 2, CELL, EMPTY, 0, CAME), 2);
        due("14: n 0", x.row(0, 0, CELL, NUMBER, 0, CAME), -2);
        due("14: n 11", x.row(0, 11, CELL, NUMBER, 0, CAME), -2);
        due("14: n -1", x.row(0, Integer.MIN_VALUE, CELL, NUMBER, 0, CAME), -2);
        due("14: word 10", x.row(10, 0, CELL, NUMBER, 0, CAME), -1);
        due("14: word -1", x.row(-1, 1, CELL, NUMBER, 0, CAME), -1);
        due("14: no word is behind 9", x.row(9, 10, CELL, CAME, 0, 8), 1);
    }

    private static void rowLeavesOut() {
        JavaBridge x = filled();
        x.declare(1, 0, 0, 0, 0, 1, 0);
        x.declare(3, 2, 2, 0, 0, 1, 0);
        x.declare(5, 0, 0, 0, 0, 1, 0);
        due("14: not DECLARED, or refused", x.row(0, 6, CELL, 0, 0, CAME), 2);
        due("14: no call", x.word(3, 4), 0);
        due("14: none that is DECLARED", x.row(6, 3, CELL, 0, 0, CAME), 0);
        due("14: those left out are among the n", x.row(0, 2, CELL, 0, 0, CAME), 1);
        due("14: no call", x.word(5, 4), 1);
        due("14: no such place to", x.row(0, 10, CELL, 0, 0, 10), 0);
        due("14: no such place on", x.row(1, 1, 10, 0, 0, CAME), 0);
        due("14: nothing was THROWN", x.latest(), 0);
        due("14: on NOTHING", x.row(0, 6, EMPTY, 0, 0, CAME), 0);
        due("14: all of them were called", x.word(3, 4), 1);
        due("14: all of them THREW", x.word(5, 5), 1);
    }

    private static void latest() {
        JavaBridge x = filled();
        due("15: nothing so far", x.latest(), 0);
        call(x, 0, 0, EMPTY, 0);
        due("15: nothing", x.latest(), 1);
        callWith(x, 3, 6, 0, CELL, 0);
        due("15: a cast", x.latest(), 2);
        call(x, 2, 1, SHELF, 9);
        due("15: an index", x.latest(), 3);
        call(x, 0, 3, CELL, 0);
        due("15: by 0", x.latest(), 4);
        put(x, TWICES_SHELF, 0, CELL);
        due("15: a store", x.latest(), 5);
        call(x, 3, 4, 0, -1);
        due("15: a length", x.latest(), 6);
        call(x, 0, 0, CELL, 0);
        due("15: what comes back leaves it", x.latest(), 6);
        call(x, 0, 0, SHELF, 0);
        due("15: a refusal leaves it", x.latest(), 6);
        x.cell(EMPTY, 0);
        due("15: cell THROWS, too", x.latest(), 1);
    }

    private static void started() {
        JavaBridge x = filled();
        due("16: the MAKER", x.started(3), 1);
        due("16: what it makes STARTS no CLASS", x.started(0), 0);
        call(x, 1, 0, CELL, 0);
        due("16: refused", x.started(1), 0);
        call(x, 2, 0, EMPTY, 0);
        put(x, EMPTY, 0, CELL);
        due("16: it THREW, but STARTED", x.started(2), 2);
        call(x, 1, 0, TWICE, 0);
        due("16: CLASS 0 ahead of 1", x.started(0), 3);
        due("16: CLASS 1", x.started(1), 4);
        call(x, 0, 0, TWICE, 0);
        due("16: once", x.started(0), 3);
        due("16: no such class", x.started(4), -1);
        due("16: no such class", x.started(-1), -1);
        JavaBridge y = filled();
        call(y, 0, 0, TWICE, 0);
        due("16: CLASS 0 on a TWICE", y.started(0), 2);
        due("16: does not START CLASS 1", y.started(1), 0);
        call(y, 1, 0, TWICE, 0);
        due("16: CLASS 1 behind it", y.started(1), 3);
        due("16: CLASS 0 as it was", y.started(0), 2);
    }

    private static void share() {
        JavaBridge x = filled();
        due("17: none THREW", Check.share(x), -1);
        call(x, 0, 3, CELL, 0);
        due("17: 6 by 1", Check.share(x), 6);
        call(x, 0, 3, CELL, 0);
        due("17: 7 by 2, cut, also of WORDS that were something else", Check.share(x), 3);
        call(x, 0, 0, SHELF, 0);
        x.set(ROW, 9, 9);
        due("17: refusals and set do not count", Check.share(x), 3);
        x.declare(0, 0, 0, 0, 0, 1, 0);
        x.row(0, 1, CELL, 0, 0, CAME);
        due("17: 8 by 2, rows count", Check.share(x), 4);
    }
}
