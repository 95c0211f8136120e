import java.util.function.Consumer;

/** The document's text of the MEMBERS: each one that names a boundary case. */
public final class EdgesOfMembersTest {
    private static final int MOST = Integer.MAX_VALUE;
    private static final int LEAST = Integer.MIN_VALUE;
    private static final int QUARTER = 1 << 30;

    private static final int CELL = Scene.CELL;
    private static final int TWICE = Scene.TWICE;
    private static final int SHELF = Scene.SHELF;
    private static final int TWICES = Scene.TWICES;
    private static final int ROW = Scene.ROW;
    private static final int EMPTY = Scene.EMPTY;
    private static final int NUMBER = Scene.NUMBER;
    private static final int TO = Scene.TO;

    /** CLASS and place: a CELL, a TWICE as one, a TWICE as such. */
    private static final int[][] WAYS = {{0, CELL}, {0, TWICE}, {1, TWICE}};
    private static final Edges EDGES = new Edges("edges of members");

    public static void main(String[] args) {
        counts();
        get();
        set();
        add();
        divide();
        divideByZero();
        wide();
        half();
        same();
        putIntoRow();
        putThrows();
        putOfTwin();
        keepAndKept();
        self();
        shelfPut();
        shelfPutThrows();
        shelfAt();
        shelfSize();
        shelfSum();
        shelfSumThrows();
        shelfFirst();
        shelfFirstThrows();
        makerOnNoObject();
        makeCells();
        lengthsThrow();
        lengths();
        made();
        as();
        codes();
        EDGES.end();
    }

    private static void due(String what, long got, long want) {
        EDGES.due(what, got, want);
    }

    private static void sentence(String words) {
        EDGES.sentence("Terms", words);
    }

    /** An INT came, and it is this one. */
    private static void came(String what, Bridge x, int answer, long v) {
        due(what, answer, 1);
        due(what + " gives", x.value(TO), v);
    }

    private static void counts() {
        sentence("MEMBERS of 0 (and of 1: there also 10):");
        due("MEMBER 9 of 0", new Bridge().member(0, 9, 2), 8);
        due("MEMBER 10 of 0", new Bridge().member(0, 10, 2), -1);
        due("MEMBER 10 of 1", new Bridge().member(1, 10, 2), 5);
        due("MEMBER 11 of 1", new Bridge().member(1, 11, 2), -1);
        EDGES.refused("a TWICE's self as of CLASS 0", x -> x.declare(0, 0, 10, 0, 0, 5, 0), -1);
    }

    private static void get() {
        sentence("0 get () INT: V; of a TWICE two times that.");
        int[][] table = {{0, 0}, {1, 2}, {-1, -2}, {QUARTER - 1, MOST - 1}, {QUARTER, LEAST},
            {-QUARTER, LEAST}, {-QUARTER - 1, MOST - 1}, {MOST, -2}, {LEAST, 0}};
        for (int[] line : table) {
            for (int[] way : WAYS) {
                Bridge x = Scene.filled();
                x.ask(0, 1, way[1], line[0]);
                came("get of V " + line[0], x, x.ask(way[0], 0, way[1], 0), way[1] == CELL ? line[0] : line[1]);
            }
        }
        onNothing(0);
    }

    /** Every MEMBER of CLASSES 0 and 1, on NOTHING. */
    private static void onNothing(int m) {
        for (int cls = m == 10 ? 1 : 0; cls < 2; cls++) {
            int of = cls;
            int given = Bridge.kindOf(cls, m, 0) == 7 ? ROW : Bridge.kindOf(cls, m, 0) == 8 ? CELL : NUMBER;
            EDGES.thrown("MEMBER " + m + " of " + cls + " on NOTHING", x -> x.declareOwn(9, of, m, 0),
                x -> x.call(9, EMPTY, given, 0, TO), 1);
        }
    }

    private static void set() {
        sentence("1 set (INT) UNIT: V.");
        int[] values = {0, MOST, LEAST, -1};
        for (int v : values) {
            for (int[] way : WAYS) {
                Bridge x = Scene.filled();
                due("set " + v, x.ask(way[0], 1, way[1], v), 0);
                due("get behind it", x.got(way[1]), way[1] == CELL ? v : 2 * v);
                due("what the CELL keeps stays", x.give(0, 9, CELL, NUMBER, 0), 5);
            }
        }
        onNothing(1);
    }

    private static void add() {
        sentence("2 add (INT) INT: V becomes V and that: what get() is then.");
        int[][] table = {{MOST, 0, MOST, -2}, {MOST, 1, LEAST, 0}, {LEAST, -1, MOST, -2}, {LEAST, 0, LEAST, 0},
            {MOST, MOST, -2, -4}, {LEAST, LEAST, 0, 0}, {MOST, LEAST, -1, -2}, {QUARTER - 1, 1, QUARTER, LEAST},
            {-QUARTER, -1, -QUARTER - 1, MOST - 1}, {MOST - 1, 1, MOST, -2}, {5, -5, 0, 0}};
        for (int[] line : table) {
            for (int[] way : WAYS) {
                Bridge x = Scene.filled();
                int then = way[1] == CELL ? line[2] : line[3];
                x.ask(0, 1, way[1], line[0]);
                came(line[0] + " and " + line[1], x, x.ask(way[0], 2, way[1], line[1]), then);
                due("get behind it", x.got(way[1]), then);
            }
        }
        onNothing(2);
    }

    private static void divide() {
        sentence("3 divide (INT) INT: get() by that, cut:");
        int[][] table = {{7, 2, 3}, {-7, 2, -3}, {7, -2, -3}, {-7, -2, 3}, {1, 2, 0}, {-1, 2, 0}, {0, 5, 0},
            {LEAST, -1, LEAST}, {LEAST, 1, LEAST}, {MOST, -1, -MOST}, {MOST, 1, MOST}, {LEAST, LEAST, 1},
            {MOST, LEAST, 0}, {LEAST, MOST, -1}, {MOST, MOST, 1}};
        for (int[] line : table) {
            Bridge x = Scene.filled();
            x.ask(0, 1, CELL, line[0]);
            came(line[0] + " by " + line[1], x, x.ask(0, 3, CELL, line[1]), line[2]);
            due("V stays", x.got(CELL), line[0]);
        }
        int[][] twice = {{3, 4, 1}, {-3, 4, -1}, {QUARTER, -1, LEAST}, {QUARTER, 2, -QUARTER}, {MOST, 2, -1},
            {LEAST, 1, 0}};
        for (int[] line : twice) {
            for (int cls = 0; cls < 2; cls++) {
                Bridge x = Scene.filled();
                x.ask(0, 1, TWICE, line[0]);
                came("two times " + line[0] + " by " + line[1], x, x.ask(cls, 3, TWICE, line[1]), line[2]);
            }
        }
    }

    private static void divideByZero() {
        sentence("by 0 THROWS 4.");
        int[] values = {0, 7, LEAST, MOST};
        for (int v : values) {
            for (int[] way : WAYS) {
                EDGES.thrown(v + " by 0", x -> {
                    x.ask(0, 1, way[1], v);
                    x.number(NUMBER, 1, 0);
                    x.declareOwn(9, way[0], 3, 0);
                }, x -> x.call(9, way[1], NUMBER, 0, TO), 4);
            }
        }
        EDGES.thrown("NOTHING by 0: 1 ahead of 4", x -> x.declareOwn(9, 0, 3, 0),
            x -> x.call(9, EMPTY, NUMBER, 0, TO), 1);
        Bridge x = Scene.filled();
        came("by 1", x, x.ask(0, 3, CELL, 1), 1);
        came("by -1", x, x.ask(0, 3, CELL, -1), -1);
        onNothing(3);
    }

    private static void wide() {
        sentence("4 wide () LONG: get() 1000000007 times.");
        long[][] table = {{0, 0, 0}, {1, 1000000007L, 2000000014L}, {-1, -1000000007L, -2000000014L},
            {3, 3000000021L, 6000000042L}, {MOST, 2147483662032385529L, -2000000014L},
            {LEAST, -2147483663032385536L, 0}, {QUARTER, 1073741831516192768L, -2147483663032385536L}};
        for (long[] line : table) {
            for (int[] way : WAYS) {
                Bridge x = Scene.filled();
                x.ask(0, 1, way[1], line[0]);
                due("wide of V " + line[0], x.ask(way[0], 4, way[1], 0), 2);
                due("its KIND", x.kind(TO), 2);
                due("it is", x.value(TO), way[1] == CELL ? line[1] : line[2]);
            }
        }
        onNothing(4);
    }

    private static void half() {
        sentence("5 half () REAL: get() by 2.0.");
        double[][] table = {{0, 0, 0}, {1, 0.5, 1}, {-1, -0.5, -1}, {3, 1.5, 3}, {MOST, 1073741823.5, -1},
            {LEAST, -1073741824.0, 0}, {QUARTER, 536870912.0, -1073741824.0}};
        for (double[] line : table) {
            for (int[] way : WAYS) {
                Bridge x = Scene.filled();
                x.ask(0, 1, way[1], (long) line[0]);
                due("half of V " + line[0], x.ask(way[0], 5, way[1], 0), 3);
                due("its KIND", x.kind(TO), 3);
                due("it is", x.value(TO), Double.doubleToRawLongBits(way[1] == CELL ? line[1] : line[2]));
            }
        }
        onNothing(5);
    }

    private static void same() {
        sentence("6 same (ANY) INT: whether it is that OBJECT (1, 0).");
        for (int[] way : WAYS) {
            Bridge x = Scene.filled();
            for (int place = CELL; place <= ROW; place++) {
                came("same as " + place, x, x.give(way[0], 6, way[1], place, 0), place == way[1] ? 1 : 0);
            }
            came("same as NOTHING", x, x.give(way[0], 6, way[1], EMPTY, 0), 0);
            x.move(EMPTY, way[1]);
            came("same as it, in another place", x, x.give(way[0], 6, way[1], EMPTY, 0), 1);
            x.make(way[1] == CELL ? 0 : 1, x.got(way[1]) / (way[1] == CELL ? 1 : 2), EMPTY);
            due("another one with this V", x.got(EMPTY), x.got(way[1]));
            came("same as another with this V", x, x.give(way[0], 6, way[1], EMPTY, 0), 0);
        }
        onNothing(6);
    }

    private static void putIntoRow() {
        sentence("7 put (INTS) INT: cell V of that row becomes get(): THROWS 1, 3; V.");
        int[] lengths = {1, 2, 15, 16};
        for (int length : lengths) {
            for (int[] way : WAYS) {
                putAt(length, way, 0);
                putAt(length, way, length - 1);
            }
        }
    }

    private static void putAt(int length, int[] way, int v) {
        Bridge x = Scene.filled();
        x.make(4, length, ROW);
        x.ask(0, 1, way[1], v);
        for (int i = 0; i < length; i++) {
            x.set(ROW, i, -9);
        }
        came("put at " + v + " of " + length, x, x.give(way[0], 7, way[1], ROW, 0), v);
        for (int i = 0; i < length; i++) {
            due("cell " + i + " of " + length, x.cell(ROW, i), i != v ? -9 : way[1] == CELL ? v : 2 * v);
        }
    }

    private static void putThrows() {
        sentence("cell V of that row becomes get(): THROWS 1, 3; V.");
        for (int[] way : WAYS) {
            for (int marks = 0; marks <= 2; marks += 2) {
                int[] lengths = {0, 1, 3, 15, 16};
                for (int length : lengths) {
                    int[] outside = {-1, length, LEAST, MOST};
                    for (int v : outside) {
                        putThrows(way, v, length, marks);
                    }
                }
                putOfNothingThrows(way, 0, marks);
                putOfNothingThrows(way, -1, marks);
            }
        }
        onNothing(7);
        EDGES.thrown("on NOTHING with NOTHING", x -> { }, x -> x.call(Scene.PUT, EMPTY, EMPTY, 0, TO), 1);
    }

    private static void putThrows(int[] way, int v, int length, int marks) {
        EDGES.thrown("V " + v + " into " + length + " cells", x -> {
            x.make(4, length, ROW);
            x.ask(0, 1, way[1], v);
            x.declareOwn(9, way[0], 7, marks);
        }, x -> x.call(9, way[1], ROW, 0, TO), 3);
    }

    private static void putOfNothingThrows(int[] way, int v, int marks) {
        EDGES.thrown("no row, V " + v + ": 1 ahead of 3", x -> {
            x.ask(0, 1, way[1], v);
            x.declareOwn(9, way[0], 7, marks);
        }, x -> x.call(9, way[1], EMPTY, 0, TO), 1);
    }

    private static void putOfTwin() {
        sentence("2 COPY: INTS that go in go as a twin;");
        Bridge x = Scene.filled();
        x.make(4, 16, SHELF);
        x.ask(0, 1, CELL, 15);
        came("the last cell of a twin of 16", x, x.give(0, 7, CELL, SHELF, 2), 15);
        due("the row stays", x.cell(SHELF, 15), 0);
        x.ask(0, 1, CELL, 3);
        due("a twin is no longer than its row", x.give(0, 7, CELL, ROW, 2), -13);
        x.ask(0, 1, CELL, 2);
        came("the last cell of a twin of 3", x, x.give(0, 7, CELL, ROW, 2), 2);
        due("the row stays", x.cell(ROW, 2), 9);
        came("without the mark", x, x.give(0, 7, CELL, ROW, 0), 2);
        due("the row is changed", x.cell(ROW, 2), 2);
        x.set(ROW, 0, 5);
        came("the twin's cell 0 is the row's", x, x.give(2, 4, TWICES, ROW, 2), 0);
    }

    private static void keepAndKept() {
        sentence("8 keep (ANY) UNIT. 9 kept () ANY.");
        for (int[] way : WAYS) {
            Bridge x = Scene.filled();
            x.make(way[1] == CELL ? 0 : 1, 4, way[1]);
            due("nothing at first", x.give(way[0], 9, way[1], NUMBER, 0), -11);
            due("nothing at first, MAY", x.give(way[0], 9, way[1], NUMBER, 1), 0);
            int[] kinds = {0, 4, 5, 6, 6, 7};
            for (int place = CELL; place <= ROW; place++) {
                due("keep " + place, x.give(way[0], 8, way[1], place, 0), 0);
                due("kept " + place, x.give(way[0], 9, way[1], NUMBER, 0), kinds[place]);
                due("the very same", x.same(TO, place), 1);
            }
            due("V stays", x.got(way[1]), way[1] == CELL ? 4 : 8);
            due("keep itself", x.give(way[0], 8, way[1], way[1], 0), 0);
            x.give(way[0], 9, way[1], NUMBER, 0);
            due("kept itself", x.same(TO, way[1]), 1);
            due("keep NOTHING", x.give(way[0], 8, way[1], EMPTY, 0), 0);
            due("nothing is kept", x.give(way[0], 9, way[1], NUMBER, 0), -11);
        }
        onNothing(8);
        onNothing(9);
    }

    private static void self() {
        sentence("10 self () TWICE: it.");
        Bridge x = Scene.filled();
        due("self", x.give(1, 10, TWICE, NUMBER, 0), 5);
        due("it", x.same(TO, TWICE), 1);
        EDGES.refused("of a CELL", y -> y.call(Scene.SELF, CELL, 0, 0, TO), -3);
        onNothing(10);
    }

    private static void shelfPut() {
        sentence("of 2: 0 put (INT, CELL) UNIT: cell INT becomes that:");
        int[] lengths = {1, 2, 15, 16};
        for (int length : lengths) {
            for (int maker = 2; maker <= 3; maker++) {
                int[] indexes = {0, length - 1};
                for (int i : indexes) {
                    Bridge x = Scene.filled();
                    x.make(maker, length, SHELF);
                    due("put at " + i + " of " + length, x.shelve(SHELF, i, TWICE), 0);
                    due("it is there", x.ask(2, 1, SHELF, i), 5);
                    due("the very same", x.same(TO, TWICE), 1);
                    due("put NOTHING", x.shelve(SHELF, i, EMPTY), 0);
                    due("nothing is there", x.ask(2, 1, SHELF, i), -11);
                    due("put a CELL", x.shelve(SHELF, i, CELL), maker == 2 ? 0 : -15);
                }
            }
        }
        Bridge x = Scene.filled();
        due("no other cell", x.shelve(SHELF, 1, CELL), 0);
        due("ahead", x.ask(2, 1, SHELF, 0), 4);
        due("behind", x.ask(2, 1, SHELF, 2), -11);
    }

    private static void shelfPutThrows() {
        sentence("THROWS 3, 5 (no TWICE, where only such go).");
        int[] shelves = {SHELF, TWICES};
        for (int shelf : shelves) {
            int length = shelf == SHELF ? 3 : 2;
            int[] outside = {-1, length, 16, LEAST, MOST};
            for (int i : outside) {
                for (int what = CELL; what <= TWICE; what++) {
                    shelfPutThrows(shelf, i, what, 3);
                }
                shelfPutThrows(shelf, i, EMPTY, 3);
            }
        }
        shelfPutThrows(TWICES, 0, CELL, 5);
        shelfPutThrows(TWICES, 1, CELL, 5);
        shelfPutThrows(EMPTY, 0, CELL, 1);
        shelfPutThrows(EMPTY, -1, CELL, 1);
        for (int maker = 2; maker <= 3; maker++) {
            Bridge x = Scene.filled();
            x.make(maker, 0, SHELF);
            due("into no cells", x.shelve(SHELF, 0, TWICE), -13);
            due("into no cells: 3 ahead of 5", x.shelve(SHELF, 0, CELL), -13);
            x.make(maker, 99, SHELF);
            due("the last of 16", x.shelve(SHELF, 15, TWICE), 0);
            due("behind the last of 16", x.shelve(SHELF, 16, TWICE), -13);
        }
    }

    private static void shelfPutThrows(int shelf, int i, int what, int kind) {
        EDGES.thrown("put into " + shelf + " at " + i + " what is in " + what, x -> x.number(NUMBER, 1, i),
            x -> x.call(Scene.SHELVE, shelf, NUMBER, what, TO), kind);
    }

    private static void shelfAt() {
        sentence("1 at (INT) CELL: THROWS 3.");
        Bridge x = Scene.filled();
        due("the first", x.ask(2, 1, SHELF, 0), 4);
        due("the next", x.ask(2, 1, SHELF, 1), 5);
        due("the last is nothing", x.ask(2, 1, SHELF, 2), -11);
        due("of TWICES", x.ask(2, 1, TWICES, 0), 5);
        int[] shelves = {SHELF, TWICES, EMPTY};
        for (int shelf : shelves) {
            int length = shelf == SHELF ? 3 : 2;
            int[] outside = {-1, length, 16, LEAST, MOST};
            for (int i : outside) {
                for (int marks = 0; marks < 2; marks++) {
                    int may = marks;
                    EDGES.thrown("at " + i + " of " + shelf, y -> {
                        y.number(NUMBER, 1, i);
                        y.declareOwn(9, 2, 1, may);
                    }, y -> y.call(9, shelf, NUMBER, 0, TO), shelf == EMPTY ? 1 : 3);
                }
            }
        }
        x.make(2, 0, SHELF);
        due("of no cells", x.ask(2, 1, SHELF, 0), -13);
        x.make(2, 16, SHELF);
        due("the last of 16", x.ask(2, 1, SHELF, 15), -11);
        due("behind the last of 16", x.ask(2, 1, SHELF, 16), -13);
    }

    private static void shelfSize() {
        sentence("2 size () INT.");
        int[][] table = {{0, 0}, {1, 1}, {15, 15}, {16, 16}, {17, 16}, {MOST, 16}};
        for (int[] line : table) {
            for (int maker = 2; maker <= 3; maker++) {
                Bridge x = Scene.filled();
                x.make(maker, line[0], SHELF);
                came("size of " + line[0], x, x.ask(2, 2, SHELF, 0), line[1]);
                x.shelve(SHELF, 0, TWICE);
                came("size with one in it", x, x.ask(2, 2, SHELF, 0), line[1]);
            }
        }
        EDGES.thrown("of NOTHING", x -> x.declareOwn(9, 2, 2, 0), x -> x.call(9, EMPTY, 0, 0, TO), 1);
    }

    private static void shelfSum() {
        sentence("3 sum () INT: get() of all cells, from the first on:");
        for (int maker = 2; maker <= 3; maker++) {
            Bridge x = Scene.filled();
            x.make(maker, 0, SHELF);
            came("of no cells", x, x.ask(2, 3, SHELF, 0), 0);
            x.make(maker, 1, SHELF);
            x.shelve(SHELF, 0, TWICE);
            came("of one", x, x.ask(2, 3, SHELF, 0), 10);
            x.make(maker, 99, SHELF);
            for (int i = 0; i < 16; i++) {
                x.shelve(SHELF, i, TWICE);
            }
            came("of 16", x, x.ask(2, 3, SHELF, 0), 160);
            x.ask(0, 1, TWICE, 1 << 27);
            came("16 times 2 to 28 goes round", x, x.ask(2, 3, SHELF, 0), 0);
            x.ask(0, 1, TWICE, (1 << 27) + 1);
            came("16 times 2 to 28 and 2 goes round", x, x.ask(2, 3, SHELF, 0), 32);
        }
        int[][] table = {{MOST, 0, MOST}, {MOST, 1, MOST + 2}, {LEAST, -1, LEAST - 2}, {LEAST, QUARTER, 0},
            {MOST - 2, 1, MOST}, {LEAST + 2, -1, LEAST}};
        for (int[] line : table) {
            Bridge x = Scene.filled();
            x.make(2, 2, SHELF);
            x.shelve(SHELF, 0, CELL);
            x.shelve(SHELF, 1, TWICE);
            x.ask(0, 1, CELL, line[0]);
            x.ask(0, 1, TWICE, line[1]);
            came(line[0] + " and two times " + line[1], x, x.ask(2, 3, SHELF, 0), line[2]);
        }
    }

    private static void shelfSumThrows() {
        sentence("THROWS 1 (a cell is nothing).");
        for (int nothing = 0; nothing < 3; nothing++) {
            int at = nothing;
            EDGES.thrown("nothing in cell " + nothing, x -> {
                x.shelve(SHELF, 2, CELL);
                x.shelve(SHELF, at, EMPTY);
                x.declareOwn(9, 2, 3, 0);
            }, x -> x.call(9, SHELF, 0, 0, TO), 1);
        }
        EDGES.thrown("nothing in both", x -> {
            x.shelve(TWICES, 0, EMPTY);
            x.declareOwn(9, 2, 3, 0);
        }, x -> x.call(9, TWICES, 0, 0, TO), 1);
        EDGES.thrown("of NOTHING", x -> x.declareOwn(9, 2, 3, 0), x -> x.call(9, EMPTY, 0, 0, TO), 1);
        Bridge x = Scene.filled();
        x.make(2, 16, SHELF);
        for (int i = 0; i < 15; i++) {
            x.shelve(SHELF, i, CELL);
        }
        due("nothing in the last of 16", x.ask(2, 3, SHELF, 0), -11);
        x.shelve(SHELF, 15, CELL);
        came("nothing in none of 16", x, x.ask(2, 3, SHELF, 0), 16);
    }

    private static void shelfFirst() {
        sentence("4 first (INTS) INT: the least number of its cells of which V is that of the row's cell 0:");
        Bridge x = Scene.filled();
        x.shelve(SHELF, 2, CELL);
        first(x, 1, 0, "in two cells");
        first(x, 5, 1, "V of a TWICE");
        first(x, 10, -1, "get of a TWICE is not looked at");
        first(x, 8, -1, "the row's cell 1 is not looked at");
        int[] values = {MOST, LEAST, 0, -1};
        for (int v : values) {
            x.ask(0, 1, TWICE, v);
            first(x, v, 1, "V " + v);
            first(x, v + 1, v == 0 ? 0 : -1, "V " + v + " and 1");
        }
        Bridge y = Scene.filled();
        y.make(2, 16, SHELF);
        for (int i = 0; i < 15; i++) {
            y.shelve(SHELF, i, CELL);
        }
        y.shelve(SHELF, 15, TWICE);
        first(y, 5, 15, "in the last of 16");
        first(y, 1, 0, "in the first of 16");
        first(y, 6, -1, "in none of 16");
        y.make(2, 0, SHELF);
        first(y, 5, -1, "of no cells");
        y.make(2, 1, SHELF);
        y.shelve(SHELF, 0, CELL);
        y.make(4, 1, ROW);
        first(y, 1, 0, "a row of one cell");
    }

    private static void first(Bridge x, int wanted, int found, String what) {
        x.set(ROW, 0, wanted);
        came(what, x, x.give(2, 4, SHELF, ROW, 0), found);
        came(what + ", by a twin", x, x.give(2, 4, SHELF, ROW, 2), found);
        due(what + ", the row stays", x.cell(ROW, 0), wanted);
    }

    private static void shelfFirstThrows() {
        sentence("THROWS 1 (no row; a cell of the SHELF is nothing that is looked at), 3; -1 none.");
        for (int marks = 0; marks <= 2; marks += 2) {
            firstThrows("no row", x -> { }, EMPTY, marks, 1);
            firstThrows("no row, where there are no cells", x -> x.make(2, 0, SHELF), EMPTY, marks, 1);
            firstThrows("nothing is looked at", x -> x.set(ROW, 0, 6), ROW, marks, 1);
            firstThrows("nothing ahead of it", x -> {
                x.set(ROW, 0, 5);
                x.shelve(SHELF, 0, EMPTY);
            }, ROW, marks, 1);
            firstThrows("a row of no cells", x -> x.make(4, 0, ROW), ROW, marks, 3);
            firstThrows("a row of no cells, where there are no cells", x -> {
                x.make(4, 0, ROW);
                x.make(2, 0, SHELF);
            }, ROW, marks, 3);
            firstThrows("a row of no cells, where all are nothing", x -> {
                x.make(4, 0, ROW);
                x.make(2, 2, SHELF);
            }, ROW, marks, 3);
        }
        EDGES.thrown("of NOTHING", x -> x.declareOwn(9, 2, 4, 0), x -> x.call(9, EMPTY, ROW, 0, TO), 1);
        Bridge x = Scene.filled();
        first(x, 1, 0, "nothing behind it is not looked at");
        first(x, 5, 1, "nothing right behind it is not looked at");
    }

    private static void firstThrows(String what, Consumer<Bridge> ahead, int row, int marks,
            int kind) {
        EDGES.thrown(what, x -> {
            ahead.accept(x);
            x.declareOwn(9, 2, 4, marks);
        }, x -> x.call(9, SHELF, row, 0, TO), kind);
    }

    private static void makerOnNoObject() {
        sentence("of 3, each without an OBJECT it is called on:");
        int[] ons = {-1, 10, LEAST, MOST, EMPTY, NUMBER, CELL, ROW};
        int[] comes = {4, 5, 6, 6, 7, 1, 5};
        for (int m = 0; m < comes.length; m++) {
            for (int on : ons) {
                Bridge x = Scene.filled();
                x.declareOwn(9, 3, m, 0);
                due("MEMBER " + m + " on " + on, x.call(9, on, m == 6 ? TWICE : NUMBER, 0, TO), comes[m]);
            }
        }
    }

    private static void makeCells() {
        sentence("0 cell (INT) CELL: a new one with this V. 1 twice (INT) TWICE.");
        int[] values = {0, -1, MOST, LEAST, QUARTER};
        for (int v : values) {
            Bridge x = new Bridge();
            due("cell " + v, x.make(0, v, 1), 4);
            due("its V", x.got(1), v);
            due("twice " + v, x.make(1, v, 2), 5);
            due("two times its V", x.got(2), 2 * v);
            due("cell again", x.make(0, v, 3), 4);
            due("it is a new one", x.same(1, 3), 0);
        }
    }

    private static void lengthsThrow() {
        sentence("2 shelf (INT) SHELF: with so many cells: THROWS 6.");
        lengthsThrow(2, 6);
        sentence("3 shelf of TWICES (INT) SHELF: likewise.");
        lengthsThrow(3, 6);
        sentence("4 ints (INT) INTS: THROWS 6.");
        lengthsThrow(4, 7);
    }

    private static void lengthsThrow(int m, int comes) {
        int[] below = {-1, -16, -17, LEAST};
        for (int length : below) {
            EDGES.thrown("length " + length, x -> {
                x.number(NUMBER, 1, length);
                x.declareOwn(9, 3, m, 0);
            }, x -> x.call(9, NUMBER, NUMBER, 0, TO), 6);
        }
        int[] let = {0, 1, 16, 17, MOST};
        for (int length : let) {
            due("length " + length, new Bridge().ask(3, m, 0, length), comes);
        }
    }

    private static void lengths() {
        sentence("(16 cells at most: above that a length is as one of 16.)");
        int[][] table = {{0, 0}, {1, 1}, {15, 15}, {16, 16}, {17, 16}, {32, 16}, {MOST, 16}};
        for (int[] line : table) {
            Bridge x = Scene.filled();
            due("ints " + line[0], x.make(4, line[0], ROW), 7);
            for (int i = 0; i < line[1]; i++) {
                due("cell " + i + " of " + line[0], x.cell(ROW, i), 0);
            }
            due("no cell behind them", x.cell(ROW, line[1]), JavaBridge.NOTHING);
            due("ahead of them", x.cell(ROW, -1), JavaBridge.NOTHING);
            for (int maker = 2; maker <= 3; maker++) {
                due("shelf " + line[0], x.make(maker, line[0], SHELF), 6);
                came("its size", x, x.ask(2, 2, SHELF, 0), line[1]);
                due("no cell behind them", x.shelve(SHELF, line[1], TWICE), -13);
                due("the last one", x.shelve(SHELF, line[1] - 1, TWICE), line[1] == 0 ? -13 : 0);
            }
        }
    }

    private static void made() {
        sentence("5 made () INT: how many OBJECTS it made.");
        Bridge x = new Bridge();
        due("at first", x.made(), 0);
        int made = 0;
        for (int m = 0; m < 5; m++) {
            x.make(m, 2, 1 + m);
            made++;
            due("behind one by " + m, x.made(), made);
            if (m >= 2) {
                due("a length below 0", x.ask(3, m, 0, -1), -16);
                due("none is made by it", x.made(), made);
                due("no cells", x.make(m, 0, 6), m == 4 ? 7 : 6);
                made++;
                due("it is made", x.made(), made);
            }
        }
        x.give(3, 6, 0, 2, 0);
        due("none is made by as", x.made(), made);
        x.ask(0, 1, 1, 0);
        x.give(0, 7, 1, 5, 2);
        due("a twin is not made by THE MAKER", x.made(), made);
        x.declareAs(0, 3, 0, 5, 0);
        x.number(0, 1, 1);
        due("a CELL that is not CAST", x.call(0, 0, 0, 0, 7), -12);
        due("is made", x.made(), made + 1);
        due("refused", x.call(0, 0, 1, 0, 7), -3);
        due("none is made by it", x.made(), made + 1);
    }

    private static void as() {
        sentence("6 as (ANY) TWICE: that, cast: THROWS 2.");
        Bridge x = Scene.filled();
        due("a TWICE", x.give(3, 6, NUMBER, TWICE, 0), 5);
        due("that", x.same(TO, TWICE), 1);
        int[] others = {CELL, SHELF, TWICES, ROW};
        for (int place : others) {
            for (int marks = 0; marks < 2; marks++) {
                int may = marks;
                EDGES.thrown("what is in " + place, y -> y.declareOwn(9, 3, 6, may),
                    y -> y.call(9, NUMBER, place, 0, TO), 2);
            }
        }
        EDGES.thrown("NOTHING", y -> y.declareOwn(9, 3, 6, 0), y -> y.call(9, NUMBER, EMPTY, 0, TO), 1);
        due("NOTHING, MAY", x.give(3, 6, NUMBER, EMPTY, 1), 0);
        due("NOTHING came", x.kind(TO), 0);
    }

    private static void codes() {
        sentence("THROWS: 1 nothing; 2 a cast; 3 an index; 4 by 0; 5 a store; 6 a length below 0.");
        Bridge x = Scene.filled();
        due("nothing", x.ask(0, 0, EMPTY, 0), -11);
        due("latest", x.latest(), 1);
        due("a cast", x.give(3, 6, 0, CELL, 0), -12);
        due("latest", x.latest(), 2);
        due("an index", x.ask(2, 1, SHELF, 3), -13);
        due("latest", x.latest(), 3);
        due("by 0", x.ask(0, 3, CELL, 0), -14);
        due("latest", x.latest(), 4);
        due("a store", x.shelve(TWICES, 0, CELL), -15);
        due("latest", x.latest(), 5);
        due("a length below 0", x.ask(3, 2, 0, -1), -16);
        due("latest", x.latest(), 6);
    }
}
