/** Promises 1 to 8: each sentence that names a boundary case. */
public final class EdgesOfPlacesTest {
    private static final long NOTHING = Long.MIN_VALUE;
    private static final int MOST = Integer.MAX_VALUE;
    private static final int LEAST = Integer.MIN_VALUE;

    /** The first places that are none, on each side, and the furthest. */
    private static final int[] NO_PLACES = {-1, 10, LEAST, MOST};
    private static final Edges EDGES = new Edges("edges of places");

    public static void main(String[] args) {
        newObject();
        numbersLet();
        numbersRefused();
        moves();
        movesRefused();
        kinds();
        values();
        valuesOfNone();
        sames();
        samesRefused();
        cells();
        cellsOfNone();
        cellsThrow();
        sets();
        setsRefused();
        setsThrow();
        EDGES.end();
    }

    private static void due(String what, long got, long want) {
        EDGES.due(what, got, want);
    }

    private static void newObject() {
        EDGES.sentence("Promise 1: A new object",
            "All places hold NOTHING, no WORDS; no CLASS has STARTED.");
        Bridge x = new Bridge();
        for (int i = 0; i < 10; i++) {
            due("kind of place " + i, x.kind(i), 0);
            due("value of place " + i, x.value(i), NOTHING);
            due("places 0 and " + i, x.same(0, i), 1);
            due("WORD " + i, x.word(i, 0), -1);
            due("call of WORD " + i, x.call(i, 0, 0, 0, 0), -1);
        }
        for (int cls = 0; cls < 4; cls++) {
            due("CLASS " + cls, x.started(cls), 0);
        }
        due("a row of no WORDS", x.row(0, 10, 0, 0, 0, 0), 0);
        due("latest", x.latest(), 0);
        due("share", x.share(), -1);
        due("made", x.made(), 0);
        Bridge y = new Bridge();
        due("another object's places", y.kind(Bridge.TO), 0);
        due("another object's WORDS", y.word(Bridge.SCRATCH_WORD, 0), -1);
        due("another object's CLASSES", y.started(3), 0);
    }

    private static void numbersLet() {
        EDGES.sentence("Promise 2: number", "A place gets a number of a KIND 1, 2 (3: that, cast to a double): 1.");
        int[] places = {0, 9};
        for (int place : places) {
            numberLet(place, 1, LEAST, LEAST);
            numberLet(place, 1, MOST, MOST);
            numberLet(place, 1, 0, 0);
            numberLet(place, 2, LEAST - 1L, LEAST - 1L);
            numberLet(place, 2, MOST + 1L, MOST + 1L);
            numberLet(place, 2, Long.MAX_VALUE, Long.MAX_VALUE);
            numberLet(place, 2, Long.MIN_VALUE, Long.MIN_VALUE);
            numberLet(place, 3, MOST + 1L, 0x41E0000000000000L);
            numberLet(place, 3, 0, 0);
            numberLet(place, 3, Long.MAX_VALUE, 0x43E0000000000000L);
            numberLet(place, 3, Long.MIN_VALUE, 0xC3E0000000000000L);
        }
        for (int kind = 1; kind <= 3; kind++) {
            numberWhereAnObjectWas(kind);
        }
    }

    private static void numberWhereAnObjectWas(int kind) {
        Bridge x = Scene.filled();
        x.move(Scene.EMPTY, Scene.CELL);
        due("KIND " + kind + " where a CELL was", x.number(Scene.CELL, kind, 4), 1);
        due("the CELL is elsewhere still", x.got(Scene.EMPTY), 1);
        due("no CELL is called on", x.give(0, 0, Scene.CELL, Scene.NUMBER, 0), -3);
        due("no OBJECT goes in", x.give(0, 8, Scene.TWICE, Scene.CELL, 0), -3);
        due("KIND " + kind + " where INTS were", x.number(Scene.ROW, kind, 4), 1);
        due("no cell is there", x.cell(Scene.ROW, 0), NOTHING);
        due("it is a cast that is THROWN", x.latest(), 2);
        due("no cell is set", x.set(Scene.ROW, 0, 1), -12);
        due("like numbers", x.same(Scene.CELL, Scene.ROW), 1);
    }

    private static void numberLet(int place, int kind, long v, long told) {
        Bridge x = new Bridge();
        String call = "number(" + place + ", " + kind + ", " + v + ")";
        due(call, x.number(place, kind, v), 1);
        due("kind behind " + call, x.kind(place), kind);
        due("value behind " + call, x.value(place), told);
        due("another place behind " + call, x.kind(9 - place), 0);
    }

    private static void numbersRefused() {
        EDGES.sentence("Promise 2: number", "-2: KIND; an INT that is none.");
        int[] noKinds = {0, 4, -1, 7, 8, 9, LEAST, MOST};
        for (int kind : noKinds) {
            EDGES.refusedAlsoAtFirst("KIND " + kind, x -> x.number(Scene.TO, kind, 2), -2);
            EDGES.refused("KIND " + kind + " and no INT", x -> x.number(Scene.CELL, kind, MOST + 1L), -2);
        }
        long[] noInts = {MOST + 1L, LEAST - 1L, Long.MAX_VALUE, Long.MIN_VALUE, 1L << 32};
        for (long v : noInts) {
            EDGES.refusedAlsoAtFirst("no INT " + v, x -> x.number(Scene.NUMBER, 1, v), -2);
        }
        for (int place : NO_PLACES) {
            EDGES.refusedAlsoAtFirst("place " + place, x -> x.number(place, 1, 2), -1);
            EDGES.refused("place " + place + " ahead of KIND 0", x -> x.number(place, 0, 2), -1);
            EDGES.refused("place " + place + " ahead of KIND 4", x -> x.number(place, 4, 2), -1);
            EDGES.refused("place " + place + " ahead of no INT", x -> x.number(place, 1, MOST + 1L), -1);
        }
    }

    private static void moves() {
        EDGES.sentence("Promise 3: move", "A place gets what another one holds (-1: NOTHING): its KIND.");
        int[] kinds = {1, 4, 5, 6, 6, 7, 2, 3, 0, 1};
        for (int from = 0; from < 10; from++) {
            Bridge x = Scene.filled();
            due("from " + from, x.move(Scene.TO, from), kinds[from]);
            due("it holds that", x.same(Scene.TO, from), 1);
            due("the other one holds it still", x.kind(from), kinds[from]);
        }
        for (int place = 0; place < 10; place++) {
            Bridge x = Scene.filled();
            due("from itself", x.move(place, place), kinds[place]);
            due("it holds that still", x.kind(place), kinds[place]);
            due("NOTHING into " + place, x.move(place, -1), 0);
            due("it holds NOTHING", x.same(place, Scene.EMPTY), 1);
        }
        Bridge x = Scene.filled();
        due("into the first place", x.move(0, 9), 1);
        due("it is there", x.value(0), Scene.TO_HOLDS);
        x.move(Scene.EMPTY, Scene.ROW);
        x.move(Scene.ROW, -1);
        due("NOTHING in one place leaves the OBJECT in another", x.cell(Scene.EMPTY, 2), 9);
    }

    private static void movesRefused() {
        EDGES.sentence("Promise 3: move", "its KIND. -1.");
        for (int place : NO_PLACES) {
            EDGES.refusedAlsoAtFirst("into " + place, x -> x.move(place, 0), -1);
            EDGES.refused("NOTHING into " + place, x -> x.move(place, -1), -1);
            EDGES.refused("into " + place + " from 10", x -> x.move(place, 10), -1);
        }
        int[] noFroms = {-2, 10, LEAST, MOST};
        for (int from : noFroms) {
            EDGES.refusedAlsoAtFirst("from " + from, x -> x.move(Scene.CELL, from), -1);
        }
    }

    private static void kinds() {
        EDGES.sentence("Promise 4: kind", "Its KIND (0: NOTHING; of OBJECTS 4 to 7). -1.");
        int[] kinds = {1, 4, 5, 6, 6, 7, 2, 3, 0, 1};
        Bridge x = Scene.filled();
        for (int place = 0; place < 10; place++) {
            due("place " + place, x.kind(place), kinds[place]);
        }
        for (int place : NO_PLACES) {
            EDGES.refusedAlsoAtFirst("place " + place, y -> y.kind(place), -1);
        }
    }

    private static void values() {
        EDGES.sentence("Promise 5: value",
            "The INT, LONG, bits of the REAL (of what is no number 0x7ff8000000000000).");
        Bridge x = new Bridge();
        valueOf(x, 1, MOST, MOST);
        valueOf(x, 1, LEAST, LEAST);
        valueOf(x, 2, Long.MAX_VALUE, Long.MAX_VALUE);
        valueOf(x, 2, Long.MIN_VALUE + 1, Long.MIN_VALUE + 1);
        valueOf(x, 3, 0, 0);
        valueOf(x, 3, 1, 0x3FF0000000000000L);
        valueOf(x, 3, -1, 0xBFF0000000000000L);
        valueOf(x, 3, 2, 0x4000000000000000L);
        valueOf(x, 3, (1L << 53) - 1, 0x433FFFFFFFFFFFFFL);
        valueOf(x, 3, 1L << 53, 0x4340000000000000L);
        valueOf(x, 3, (1L << 53) + 1, 0x4340000000000000L);
        valueOf(x, 3, (1L << 53) + 2, 0x4340000000000001L);
        valueOf(x, 3, (1L << 53) + 3, 0x4340000000000002L);
        valueOf(x, 3, Long.MAX_VALUE, 0x43E0000000000000L);
        valueOf(x, 3, Long.MAX_VALUE - 511, 0x43E0000000000000L);
        valueOf(x, 3, Long.MAX_VALUE - 512, 0x43DFFFFFFFFFFFFFL);
        valueOf(x, 3, Long.MIN_VALUE, 0xC3E0000000000000L);
        valueOf(x, 3, Long.MIN_VALUE + 513, 0xC3DFFFFFFFFFFFFFL);
        Bridge y = Scene.filled();
        y.give(0, 5, Scene.CELL, Scene.EMPTY, 0);
        due("the half of 1", y.value(Scene.TO), 0x3FE0000000000000L);
    }

    private static void valueOf(Bridge x, int kind, long v, long told) {
        int[] places = {0, 9};
        for (int place : places) {
            x.number(place, kind, v);
            due("KIND " + kind + " of " + v + " in " + place, x.value(place), told);
        }
    }

    private static void valuesOfNone() {
        EDGES.sentence("Promise 5: value", "NOTHING: also an OBJECT, NOTHING.");
        Bridge x = Scene.filled();
        for (int place = Scene.CELL; place <= Scene.ROW; place++) {
            due("an OBJECT in " + place, x.value(place), NOTHING);
        }
        due("NOTHING", x.value(Scene.EMPTY), NOTHING);
        due("where a number was", x.move(Scene.NUMBER, -1), 0);
        due("NOTHING there", x.value(Scene.NUMBER), NOTHING);
        for (int place : NO_PLACES) {
            EDGES.refusedAlsoAtFirst("place " + place, y -> y.value(place), NOTHING);
        }
    }

    private static void sames() {
        EDGES.sentence("Promise 6: same", "Whether two places hold the very same OBJECT, or both NOTHING, "
            + "or like numbers of one KIND (of REALS by bits): 1, 0.");
        Bridge x = Scene.filled();
        for (int p = 0; p < 10; p++) {
            for (int q = 0; q < 10; q++) {
                due("places " + p + " and " + q, x.same(p, q), p == q ? 1 : 0);
            }
        }
        for (int m = 0; m < 5; m++) {
            x.make(m, 3, 1);
            x.make(m, 3, 2);
            due("another OBJECT that is made alike, by " + m, x.same(1, 2), 0);
            x.move(2, 1);
            due("the very same, made by " + m, x.same(1, 2), 1);
        }
        x.move(1, -1);
        due("both NOTHING", x.same(1, Scene.EMPTY), 1);
        due("NOTHING and an OBJECT", x.same(1, 2), 0);
        samesOfNumbers(x);
    }

    private static void samesOfNumbers(Bridge x) {
        for (int kind = 1; kind <= 3; kind++) {
            for (int other = 1; other <= 3; other++) {
                x.number(0, kind, 0);
                x.number(9, other, 0);
                due("KINDS " + kind + " and " + other + " of 0", x.same(0, 9), kind == other ? 1 : 0);
            }
            x.number(9, kind, 1);
            due("0 and 1 of KIND " + kind, x.same(0, 9), 0);
            due("0 of KIND " + kind + " and NOTHING", x.same(0, Scene.EMPTY), 0);
            due("NOTHING and 0 of KIND " + kind, x.same(Scene.EMPTY, 0), 0);
        }
        x.number(0, 2, NOTHING);
        due("the least LONG and NOTHING", x.same(0, Scene.EMPTY), 0);
        x.number(9, 2, NOTHING);
        due("the least LONG, two times", x.same(0, 9), 1);
        x.number(0, 2, 1L << 32);
        x.number(9, 2, 0);
        due("LONGS that are one as ints", x.same(0, 9), 0);
        x.number(0, 3, Long.MAX_VALUE);
        x.number(9, 3, Long.MAX_VALUE - 511);
        due("REALS that are cast to one", x.same(0, 9), 1);
        x.number(9, 3, Long.MAX_VALUE - 512);
        due("REALS that are not", x.same(0, 9), 0);
        x.number(0, 3, 1);
        x.number(9, 3, -1);
        due("REALS but for the sign", x.same(0, 9), 0);
        x.number(0, 2, 0x3FF0000000000000L);
        x.number(9, 3, 1);
        due("a LONG that is the REAL's bits", x.same(0, 9), 0);
    }

    private static void samesRefused() {
        EDGES.sentence("Promise 6: same", "(of REALS by bits): 1, 0. -1.");
        for (int place : NO_PLACES) {
            EDGES.refusedAlsoAtFirst("place " + place, x -> x.same(place, Scene.EMPTY), -1);
            EDGES.refusedAlsoAtFirst("other " + place, x -> x.same(Scene.EMPTY, place), -1);
            EDGES.refused("both " + place, x -> x.same(place, place), -1);
        }
    }

    private static void cells() {
        EDGES.sentence("Promise 7: cell", "Cell i of INTS (CAST to these).");
        int[] lengths = {1, 2, 15, 16};
        for (int length : lengths) {
            Bridge x = new Bridge();
            x.make(4, length, 9);
            for (int i = 0; i < length; i++) {
                due("a new row's cell " + i + " of " + length, x.cell(9, i), 0);
                x.set(9, i, 100 + i);
            }
            due("the first cell of " + length, x.cell(9, 0), 100);
            due("the last cell of " + length, x.cell(9, length - 1), 99 + length);
            due("nothing was THROWN", x.latest(), 0);
        }
    }

    private static void cellsOfNone() {
        EDGES.sentence("Promise 7: cell", "NOTHING: also a place;");
        for (int place : NO_PLACES) {
            EDGES.refusedAlsoAtFirst("place " + place, x -> x.cell(place, 0), NOTHING);
            EDGES.refused("place " + place + " ahead of an index", x -> x.cell(place, -1), NOTHING);
        }
    }

    private static void cellsThrow() {
        EDGES.sentence("Promise 7: cell", "THROWS 2, 1, 3 (it is NOTHING, too; latest() tells).");
        int[] noInts = {Scene.NUMBER, Scene.LONG, Scene.REAL, Scene.CELL, Scene.TWICE, Scene.SHELF, Scene.TWICES};
        int[] indexes = {0, -1, 16, LEAST, MOST};
        for (int i : indexes) {
            for (int place : noInts) {
                cellThrows(place, i, 2);
            }
            cellThrows(Scene.EMPTY, i, 1);
        }
        int[] outside = {-1, 3, 15, 16, LEAST, MOST};
        for (int i : outside) {
            cellThrows(Scene.ROW, i, 3);
        }
        int[] lengths = {0, 1, 15, 16, 17};
        for (int length : lengths) {
            Bridge x = new Bridge();
            x.make(4, length, 1);
            due("behind the last of " + length, x.cell(1, Math.min(16, length)), NOTHING);
            due("an index", x.latest(), 3);
        }
    }

    private static void cellThrows(int place, int i, int kind) {
        Bridge x = Scene.filled();
        Bridge y = Scene.filled();
        String call = "cell(" + place + ", " + i + ")";
        due(call, x.cell(place, i), NOTHING);
        due("latest behind " + call, x.latest(), kind);
        due("share behind " + call, x.share(), y.share());
        EDGES.alike(call + " changes nothing that is held", Scene.held(x), Scene.held(y));
    }

    private static void sets() {
        EDGES.sentence("Promise 8: set", "Cell i of INTS becomes v: 1.");
        int[] lengths = {1, 2, 15, 16};
        int[] values = {LEAST, MOST, 0, -1};
        for (int length : lengths) {
            Bridge x = new Bridge();
            x.make(4, length, 9);
            for (int v : values) {
                due("the first of " + length, x.set(9, 0, v), 1);
                due("it is there", x.cell(9, 0), v);
                due("the last of " + length, x.set(9, length - 1, v), 1);
                due("it is there", x.cell(9, length - 1), v);
            }
            due("nothing was THROWN", x.latest(), 0);
        }
        Bridge x = Scene.filled();
        x.move(Scene.EMPTY, Scene.ROW);
        due("of a row in two places", x.set(Scene.EMPTY, 1, 55), 1);
        due("it is one row", x.cell(Scene.ROW, 1), 55);
        due("the cell ahead of it stays", x.cell(Scene.ROW, 0), 7);
        due("the cell behind it stays", x.cell(Scene.ROW, 2), 9);
    }

    private static void setsRefused() {
        EDGES.sentence("Promise 8: set", "-1; THROWS 2, 1, 3.");
        for (int place : NO_PLACES) {
            EDGES.refusedAlsoAtFirst("place " + place, x -> x.set(place, 0, 1), -1);
            EDGES.refused("place " + place + " ahead of an index", x -> x.set(place, -1, 1), -1);
        }
    }

    private static void setsThrow() {
        EDGES.sentence("Promise 8: set", "THROWS 2, 1, 3.");
        int[] noInts = {Scene.NUMBER, Scene.LONG, Scene.REAL, Scene.CELL, Scene.TWICE, Scene.SHELF, Scene.TWICES};
        int[] indexes = {0, -1, 16, LEAST, MOST};
        for (int i : indexes) {
            for (int place : noInts) {
                setThrows(place, i, 2);
            }
            setThrows(Scene.EMPTY, i, 1);
        }
        int[] outside = {-1, 3, 15, 16, LEAST, MOST};
        for (int i : outside) {
            setThrows(Scene.ROW, i, 3);
        }
        int[] lengths = {0, 1, 15, 16, 17};
        for (int length : lengths) {
            Bridge x = new Bridge();
            x.make(4, length, 1);
            due("behind the last of " + length, x.set(1, Math.min(16, length), 1), -13);
        }
    }

    private static void setThrows(int place, int i, int kind) {
        EDGES.thrown("set(" + place + ", " + i + ")", x -> { }, x -> x.set(place, i, 1), kind);
        Bridge x = Scene.filled();
        long share = x.share();
        x.set(place, i, 1);
        due("no WORD THREW by it", x.share(), share);
    }
}
