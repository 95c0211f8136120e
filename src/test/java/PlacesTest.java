/** Promises 1 to 8: a new object, and the calls of places. */
public final class PlacesTest {
    private static final long NOTHING = JavaBridge.NOTHING;
    private static final Check CHECK = new Check("places");

    public static void main(String[] args) {
        newObject();
        number();
        move();
        kindAndValue();
        realBits();
        same();
        cell();
        set();
        CHECK.end();
    }

    private static void due(String what, long got, long want) {
        CHECK.due(what, got, want);
    }

    /** Place 0: 3, place 1: a CELL, 2: a TWICE, 3: a SHELF, 4: INTS of 3 cells; words 0, 1, 2, 4 make them. */
    private static JavaBridge filled() {
        JavaBridge x = new JavaBridge();
        int[] comes = {4, 5, 6, 6, 7};
        x.number(0, 1, 3);
        for (int m = 0; m < 5; m++) {
            x.declare(m, 3, m, 1, 0, comes[m], 0);
        }
        x.call(0, 0, 0, 0, 1);
        x.call(1, 0, 0, 0, 2);
        x.call(2, 0, 0, 0, 3);
        x.call(4, 0, 0, 0, 4);
        return x;
    }

    private static void newObject() {
        JavaBridge x = new JavaBridge();
        due("1: NOTHING", JavaBridge.NOTHING, Long.MIN_VALUE);
        for (int i = 0; i < 10; i++) {
            due("1: kind", x.kind(i), 0);
            due("1: value", x.value(i), NOTHING);
            due("1: word", x.word(i, 0), -1);
            due("1: call", x.call(i, 0, 0, 0, 0), -1);
        }
        for (int c = 0; c < 4; c++) {
            due("1: started", x.started(c), 0);
        }
        due("1: latest", x.latest(), 0);
        due("1: share", Check.share(x), -1);
        JavaBridge y = new JavaBridge();
        y.number(0, 1, 1);
        due("1: two objects share nothing", x.kind(0), 0);
    }

    private static void number() {
        JavaBridge x = new JavaBridge();
        due("2: INT", x.number(0, 1, Integer.MAX_VALUE), 1);
        due("2: its value", x.value(0), Integer.MAX_VALUE);
        due("2: least INT", x.number(0, 1, Integer.MIN_VALUE), 1);
        due("2: its value", x.value(0), Integer.MIN_VALUE);
        due("2: no INT", x.number(0, 1, Integer.MAX_VALUE + 1L), -2);
        due("2: no INT", x.number(0, 1, Integer.MIN_VALUE - 1L), -2);
        due("2: a refusal changes nothing", x.value(0), Integer.MIN_VALUE);
        due("2: LONG", x.number(9, 2, Long.MAX_VALUE), 1);
        due("2: its kind", x.kind(9), 2);
        due("2: its value", x.value(9), Long.MAX_VALUE);
        due("2: least LONG", x.number(9, 2, Long.MIN_VALUE), 1);
        due("2: it is held", x.kind(9), 2);
        due("2: REAL", x.number(9, 3, 2), 1);
        due("2: its kind", x.kind(9), 3);
        due("2: KIND 0", x.number(9, 0, 2), -2);
        due("2: KIND 4", x.number(9, 4, 2), -2);
        due("2: KIND -1", x.number(9, -1, 2), -2);
        due("2: place 10", x.number(10, 1, 2), -1);
        due("2: place -1", x.number(-1, 1, 2), -1);
        due("2: place ahead of KIND", x.number(10, 9, 2), -1);
        due("2: far place", x.number(Integer.MIN_VALUE, 1, 2), -1);
    }

    private static void move() {
        JavaBridge x = filled();
        due("3: an INT", x.move(5, 0), 1);
        due("3: it is there", x.value(5), 3);
        due("3: the other one still holds it", x.value(0), 3);
        due("3: a TWICE", x.move(5, 2), 5);
        due("3: the very same", x.same(5, 2), 1);
        due("3: SHELF", x.move(6, 3), 6);
        due("3: INTS", x.move(6, 4), 7);
        x.set(6, 1, 44);
        due("3: one row in two places", x.cell(4, 1), 44);
        due("3: from itself", x.move(2, 2), 5);
        due("3: from a place with NOTHING", x.move(6, 9), 0);
        due("3: then it holds NOTHING", x.kind(6), 0);
        due("3: NOTHING", x.move(5, -1), 0);
        due("3: then it holds NOTHING", x.kind(5), 0);
        due("3: no such place", x.move(10, 0), -1);
        due("3: no such place", x.move(-1, 0), -1);
        due("3: no such place to move from", x.move(0, 10), -1);
        due("3: no such place to move from", x.move(0, -2), -1);
        due("3: a refusal changes nothing", x.value(0), 3);
    }

    private static void kindAndValue() {
        JavaBridge x = filled();
        int[] kinds = {1, 4, 5, 6, 7, 0};
        for (int i = 0; i < kinds.length; i++) {
            due("4: kind " + i, x.kind(i), kinds[i]);
        }
        due("4: no such place", x.kind(-1), -1);
        due("4: no such place", x.kind(10), -1);
        for (int i = 1; i < 6; i++) {
            due("5: value " + i, x.value(i), NOTHING);
        }
        due("5: INT", x.value(0), 3);
        due("5: no such place", x.value(-1), NOTHING);
        due("5: no such place", x.value(10), NOTHING);
    }

    private static void realBits() {
        JavaBridge x = new JavaBridge();
        long[] edges = {0, 1, -1, 2, 3, -3, 7, 1000000007, 1L << 52, (1L << 53) - 1, (1L << 53) + 1,
            -((1L << 53) + 3), Long.MAX_VALUE, Long.MIN_VALUE, Long.MAX_VALUE - 511, Long.MAX_VALUE - 512};
        for (long v : edges) {
            x.number(0, 3, v);
            due("5: bits of " + v, x.value(0), Double.doubleToRawLongBits((double) v));
        }
        java.util.Random random = new java.util.Random(5);
        for (int i = 0; i < 10000; i++) {
            long v = random.nextLong() >> random.nextInt(64);
            x.number(0, 3, v);
            due("5: bits of " + v, x.value(0), Double.doubleToRawLongBits((double) v));
        }
    }

    private static void same() {
        JavaBridge x = filled();
        x.call(0, 0, 0, 0, 5);
        due("6: two CELLS with one V", x.same(1, 5), 0);
        due("6: itself", x.same(1, 1), 1);
        due("6: both NOTHING", x.same(8, 9), 1);
        due("6: NOTHING and an OBJECT", x.same(8, 1), 0);
        due("6: NOTHING and an INT", x.same(8, 0), 0);
        x.number(6, 1, 3);
        due("6: like INTS", x.same(0, 6), 1);
        x.number(6, 1, 4);
        due("6: unlike INTS", x.same(0, 6), 0);
        x.number(6, 2, 3);
        due("6: INT and LONG", x.same(0, 6), 0);
        x.number(7, 2, 3);
        due("6: like LONGS", x.same(6, 7), 1);
        x.number(6, 3, 3);
        due("6: LONG and REAL", x.same(6, 7), 0);
        x.number(7, 3, 3);
        due("6: like REALS", x.same(6, 7), 1);
        x.number(7, 3, 4);
        due("6: unlike REALS", x.same(6, 7), 0);
        x.number(6, 3, (1L << 53) + 1);
        x.number(7, 3, 1L << 53);
        due("6: REALS that are cast to one", x.same(6, 7), 1);
        x.number(6, 2, Long.MIN_VALUE);
        due("6: the least LONG and NOTHING", x.same(6, 9), 0);
        due("6: no such place", x.same(-1, 0), -1);
        due("6: no such place", x.same(0, 10), -1);
    }

    private static void cell() {
        JavaBridge x = filled();
        due("7: a new row", x.cell(4, 0), 0);
        x.set(4, 2, -9);
        due("7: cell 2", x.cell(4, 2), -9);
        due("7: nothing THROWN", x.latest(), 0);
        due("7: no such place", x.cell(10, 0), NOTHING);
        due("7: no such place", x.cell(-1, 0), NOTHING);
        due("7: that THROWS nothing", x.latest(), 0);
        due("7: a CELL", x.cell(1, 0), NOTHING);
        due("7: THROWS 2", x.latest(), 2);
        due("7: NOTHING", x.cell(9, 0), NOTHING);
        due("7: THROWS 1", x.latest(), 1);
        due("7: an INT", x.cell(0, 0), NOTHING);
        due("7: THROWS 2", x.latest(), 2);
        due("7: behind the end", x.cell(4, 3), NOTHING);
        due("7: THROWS 3", x.latest(), 3);
        due("7: a SHELF", x.cell(3, 9), NOTHING);
        due("7: THROWS 2", x.latest(), 2);
        due("7: ahead of the start", x.cell(4, -1), NOTHING);
        due("7: THROWS 3", x.latest(), 3);
        due("7: no WORD THREW", Check.share(x), -1);
        for (int kind = 1; kind <= 3; kind++) {
            x.call(4, 0, 0, 0, 5);
            x.number(5, kind, 8);
            due("7: a number where INTS were", x.cell(5, 0), NOTHING);
            due("7: THROWS 2", x.latest(), 2);
            x.number(6, kind, 8);
            due("6: a number is no more what was there", x.same(5, 6), 1);
            x.cell(9, 0);
        }
    }

    private static void set() {
        JavaBridge x = filled();
        due("8: set", x.set(4, 0, Integer.MIN_VALUE), 1);
        due("8: it is there", x.cell(4, 0), Integer.MIN_VALUE);
        due("8: no other cell", x.cell(4, 1), 0);
        due("8: no such place", x.set(10, 0, 1), -1);
        due("8: no such place", x.set(-1, 0, 1), -1);
        due("8: nothing THROWN", x.latest(), 0);
        due("8: a TWICE", x.set(2, 0, 1), -12);
        due("8: THROWS 2", x.latest(), 2);
        due("8: NOTHING", x.set(9, 0, 1), -11);
        due("8: THROWS 1", x.latest(), 1);
        due("8: an INT", x.set(0, 0, 1), -12);
        due("8: behind the end", x.set(4, 3, 1), -13);
        due("8: THROWS 3", x.latest(), 3);
        due("8: ahead of the start", x.set(4, Integer.MIN_VALUE, 1), -13);
        due("8: no WORD THREW", Check.share(x), -1);
    }
}
