/** An object with something of every KIND in its places, and all that can be told of an object. */
final class Scene {
    static final int NUMBER = Bridge.NUMBER;
    static final int CELL = 1;
    static final int TWICE = 2;
    static final int SHELF = 3;
    static final int TWICES = 4;
    static final int ROW = 5;
    static final int LONG = 6;
    static final int REAL = 7;
    static final int EMPTY = 8;
    static final int TO = Bridge.TO;

    /** WORDS of the scene; 8 is not DECLARED, 9 is scratch. */
    static final int ADD = 0;
    static final int DIVIDE = 1;
    static final int KEPT = 2;
    static final int PUT = 3;
    static final int SELF = 4;
    static final int SHELVE = 5;
    static final int AT = 6;
    static final int MAKE = 7;
    static final int UNDECLARED = 8;

    static final long TO_HOLDS = -77;

    private Scene() {
    }

    /**
     * A CELL with V 1 that keeps the TWICE with V 5; a SHELF of 3 cells: the CELL,
     * the TWICE, nothing; a SHELF for TWICES of 2: the TWICE, nothing; a row 7 8 9.
     */
    static Bridge filled() {
        Bridge x = new Bridge();
        x.make(0, 1, CELL);
        x.make(1, 5, TWICE);
        x.make(2, 3, SHELF);
        x.make(3, 2, TWICES);
        x.make(4, 3, ROW);
        x.give(0, 8, CELL, TWICE, 0);
        x.shelve(SHELF, 0, CELL);
        x.shelve(SHELF, 1, TWICE);
        x.shelve(TWICES, 0, TWICE);
        for (int i = 0; i < 3; i++) {
            x.set(ROW, i, 7 + i);
        }
        x.number(LONG, 2, 4);
        x.number(REAL, 3, 5);
        x.number(NUMBER, 1, 0);
        x.number(TO, 1, TO_HOLDS);
        declareWords(x);
        x.call(ADD, CELL, NUMBER, EMPTY, TO);
        x.call(DIVIDE, TWICE, NUMBER, EMPTY, TO);
        x.number(TO, 1, TO_HOLDS);
        return x;
    }

    private static void declareWords(Bridge x) {
        x.declareOwn(ADD, 0, 2, 0);
        x.declareOwn(DIVIDE, 0, 3, 4);
        x.declareOwn(KEPT, 0, 9, 1);
        x.declareOwn(PUT, 0, 7, 2);
        x.declareOwn(SELF, 1, 10, 0);
        x.declareOwn(SHELVE, 2, 0, 0);
        x.declareAs(AT, 2, 1, 5, 0);
        x.declareOwn(MAKE, 3, 0, 0);
        x.declareOwn(Bridge.SCRATCH_WORD, 3, 5, 4);
    }

    /** What an object tells of its WORDS and CLASSES, without changing it. */
    static String told(Bridge x) {
        StringBuilder text = new StringBuilder("latest ").append(x.latest());
        text.append(" share ").append(x.share()).append(" started");
        for (int cls = 0; cls < 4; cls++) {
            text.append(' ').append(x.started(cls));
        }
        for (int word = 0; word < 10; word++) {
            text.append(" word ").append(word).append(':');
            for (int what = 0; what < 6; what++) {
                text.append(' ').append(x.word(word, what));
            }
        }
        return text.toString();
    }

    /** What the places hold, and what the OBJECTS in places 1 to 8 hold; it calls WORDS and uses scratch. */
    static String held(Bridge x) {
        StringBuilder text = new StringBuilder();
        int[] kinds = new int[10];
        for (int p = 0; p < 10; p++) {
            kinds[p] = x.kind(p);
            text.append(" place ").append(p).append(": ").append(kinds[p]).append(' ').append(x.value(p));
            for (int q = 0; q < p; q++) {
                text.append(x.same(p, q) == 1 ? "=" : ".");
            }
        }
        for (int p = 0; p < 10; p++) {
            text.append(kinds[p] == 7 ? cells(x, p) : "");
        }
        text.append(" made ").append(x.made());
        for (int p = 1; p < 9; p++) {
            text.append(kinds[p] == 4 || kinds[p] == 5 ? ofCell(x, p) : "");
            text.append(kinds[p] == 6 ? ofShelf(x, p) : "");
        }
        return text.toString();
    }

    private static String cells(Bridge x, int row) {
        StringBuilder text = new StringBuilder(" cells ").append(row).append(':');
        long v = x.cell(row, 0);
        for (int i = 1; v != JavaBridge.NOTHING && i < 20; i++) {
            text.append(' ').append(v);
            v = x.cell(row, i);
        }
        return text.toString();
    }

    private static String ofCell(Bridge x, int cell) {
        StringBuilder text = new StringBuilder(" get ").append(cell).append(": ").append(x.got(cell));
        return text.append(" kept ").append(x.give(0, 9, cell, NUMBER, 1)).append(which(x)).toString();
    }

    private static String ofShelf(Bridge x, int shelf) {
        StringBuilder text = new StringBuilder(" shelf ").append(shelf).append(':');
        int came = 0;
        for (int i = 0; came != -13 && i < 20; i++) {
            x.number(NUMBER, 1, i);
            came = x.give(2, 1, shelf, NUMBER, 1);
            text.append(' ').append(came).append(came >= 0 ? which(x) : "");
        }
        return text.append(" takes ").append(x.shelve(shelf, 0, CELL)).toString();
    }

    /** Which places hold the OBJECT that came. */
    private static String which(Bridge x) {
        StringBuilder text = new StringBuilder();
        for (int p = 1; p < 9; p++) {
            text.append(x.same(p, TO) == 1 ? "=" : ".");
        }
        return text.toString();
    }
}
