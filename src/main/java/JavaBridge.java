/**
 * A language's WORDS for MEMBERS of a host's CLASSES; ../shared/DOC.md is the
 * document that it keeps to, and the capitals here are the document's terms.
 */
public final class JavaBridge {
    public static final long NOTHING = Long.MIN_VALUE;

    private static final int UNIT = 0;
    private static final int INT = 1;
    private static final int LONG = 2;
    private static final int REAL = 3;
    private static final int CELL = 4;
    private static final int TWICE = 5;
    private static final int SHELF = 6;
    private static final int INTS = 7;
    private static final int ANY = 8;

    private static final int CELLS = 0;
    private static final int TWICES = 1;
    private static final int SHELVES = 2;
    private static final int MAKER = 3;
    private static final int CLASSES = 4;

    private static final int GET = 0;
    private static final int SET = 1;
    private static final int ADD = 2;
    private static final int DIVIDE = 3;
    private static final int WIDE = 4;
    private static final int HALF = 5;
    private static final int IS_SAME = 6;
    private static final int PUT = 7;
    private static final int KEEP = 8;
    private static final int KEPT = 9;
    private static final int SELF = 10;

    private static final int SHELF_PUT = 0;
    private static final int SHELF_AT = 1;
    private static final int SHELF_SIZE = 2;
    private static final int SHELF_SUM = 3;
    private static final int SHELF_FIRST = 4;

    private static final int MAKE_CELL = 0;
    private static final int MAKE_TWICE = 1;
    private static final int MAKE_TWICES_SHELF = 3;
    private static final int MAKE_INTS = 4;
    private static final int MADE = 5;
    private static final int AS_TWICE = 6;

    private static final int CAME_BACK = 0;
    private static final int THROWS_NOTHING = 1;
    private static final int THROWS_CAST = 2;
    private static final int THROWS_INDEX = 3;
    private static final int THROWS_BY_ZERO = 4;
    private static final int THROWS_STORE = 5;
    private static final int THROWS_LENGTH = 6;
    private static final int EXCEPTION = -10;

    private static final int NO_SUCH = -1;
    private static final int OUTSIDE = -2;
    private static final int AS_TOLD = -3;
    private static final int NOT_REFUSED = 0;

    private static final int MAY = 1;
    private static final int COPY = 2;
    private static final int PURE = 4;
    private static final int ALL_MARKS = 7;

    private static final int PLACES = 10;
    private static final int WORDS = 10;
    private static final int MOST_CELLS = 16;
    private static final long WIDE_FACTOR = 1000000007L;

    /** Where the MEMBERS of each CLASS begin among all; behind the last CLASS, where they end. */
    private static final int[] FIRST_MEMBER = {0, 10, 21, 26, 33};

    /** Of each MEMBER the two KINDS that go in, and the one that comes out. */
    private static final int[] MEMBER_KINDS = {
        UNIT, UNIT, INT,
        INT, UNIT, UNIT,
        INT, UNIT, INT,
        INT, UNIT, INT,
        UNIT, UNIT, LONG,
        UNIT, UNIT, REAL,
        ANY, UNIT, INT,
        INTS, UNIT, INT,
        ANY, UNIT, UNIT,
        UNIT, UNIT, ANY,

        UNIT, UNIT, INT,
        INT, UNIT, UNIT,
        INT, UNIT, INT,
        INT, UNIT, INT,
        UNIT, UNIT, LONG,
        UNIT, UNIT, REAL,
        ANY, UNIT, INT,
        INTS, UNIT, INT,
        ANY, UNIT, UNIT,
        UNIT, UNIT, ANY,
        UNIT, UNIT, TWICE,

        INT, CELL, UNIT,
        INT, UNIT, CELL,
        UNIT, UNIT, INT,
        UNIT, UNIT, INT,
        INTS, UNIT, INT,

        INT, UNIT, CELL,
        INT, UNIT, TWICE,
        INT, UNIT, SHELF,
        INT, UNIT, SHELF,
        INT, UNIT, INTS,
        UNIT, UNIT, INT,
        ANY, UNIT, TWICE,
    };

    private final Held[] places = new Held[PLACES];
    private final Word[] words = new Word[WORDS];
    private final int[] startedAs = new int[CLASSES];
    private final Maker maker = new Maker();

    /** What came out of the call that runs; it goes into a place only once nothing can be THROWN. */
    private final Held came = new Held();

    /** Stands for a place that is not looked at, whatever its number. */
    private final Held notLookedAt = new Held();

    /** One twin for all calls will do: no MEMBER that takes INTS keeps them. */
    private final Ints twin = new Ints(MOST_CELLS);

    private int startedSoFar;
    private int thrownLatest;
    private int allCalled;
    private int allThrew;

    public JavaBridge() {
        for (int i = 0; i < PLACES; i++) {
            places[i] = new Held();
        }
        for (int i = 0; i < WORDS; i++) {
            words[i] = new Word();
        }
    }

    // ---- places

    public int number(int place, int kind, long v) {
        if (!isPlace(place)) {
            return NO_SUCH;
        }
        if (kind < INT || kind > REAL || (kind == INT && v != (int) v)) {
            return OUTSIDE;
        }
        if (kind == REAL) {
            places[place].holdReal((double) v);
        } else {
            places[place].holdWhole(kind, v);
        }
        return 1;
    }

    public int move(int place, int from) {
        if (!isPlace(place) || (from != -1 && !isPlace(from))) {
            return NO_SUCH;
        }
        if (from == -1) {
            places[place].holdNothing();
        } else {
            places[place].holdLike(places[from]);
        }
        return places[place].kindHeld;
    }

    public int kind(int place) {
        return isPlace(place) ? places[place].kindHeld : NO_SUCH;
    }

    public long value(int place) {
        return isPlace(place) ? places[place].told() : NOTHING;
    }

    public int same(int place, int other) {
        if (!isPlace(place) || !isPlace(other)) {
            return NO_SUCH;
        }
        return places[place].isLike(places[other]) ? 1 : 0;
    }

    public long cell(int place, int i) {
        if (!isPlace(place)) {
            return NOTHING;
        }
        Ints row = places[place].asInts();
        if (row == null || row.isOutside(i)) {
            thrownLatest = thrownByCell(places[place]);
            return NOTHING;
        }
        return row.cells[i];
    }

    public int set(int place, int i, int v) {
        if (!isPlace(place)) {
            return NO_SUCH;
        }
        Ints row = places[place].asInts();
        if (row == null || row.isOutside(i)) {
            thrownLatest = thrownByCell(places[place]);
            return EXCEPTION - thrownLatest;
        }
        row.cells[i] = v;
        return 1;
    }

    /** What a place THROWS of which no cell could be had. */
    private static int thrownByCell(Held held) {
        if (held.kindHeld == UNIT) {
            return THROWS_NOTHING;
        }
        return held.kindHeld == INTS ? THROWS_INDEX : THROWS_CAST;
    }

    private static boolean isPlace(int place) {
        return place >= 0 && place < PLACES;
    }

    // ---- words

    public int members(int cls) {
        return isClass(cls) ? FIRST_MEMBER[cls + 1] - FIRST_MEMBER[cls] : NO_SUCH;
    }

    public int member(int cls, int m, int what) {
        if (!isMember(cls, m)) {
            return NO_SUCH;
        }
        return what < 0 || what > 2 ? OUTSIDE : memberKind(cls, m, what);
    }

    public int declare(int word, int cls, int m, int a, int b, int out, int marks) {
        if (!isWord(word) || !isMember(cls, m)) {
            return NO_SUCH;
        }
        if (!isKind(a) || !isKind(b) || !isKind(out) || (a == UNIT && b != UNIT)
                || marks < 0 || marks > ALL_MARKS) {
            return OUTSIDE;
        }
        if (a != memberKind(cls, m, 0) || b != memberKind(cls, m, 1)
                || !mayComeAs(memberKind(cls, m, 2), out)) {
            return AS_TOLD;
        }
        if (((marks & COPY) != 0 && a != INTS && b != INTS)
                || ((marks & MAY) != 0 && out < CELL)
                || ((marks & PURE) != 0 && changesSomething(cls, m))) {
            return AS_TOLD;
        }
        words[word].declareAs(cls, m, a, b, out, marks);
        return 1;
    }

    public int word(int word, int what) {
        if (!isDeclared(word)) {
            return NO_SUCH;
        }
        Word w = words[word];
        switch (what) {
            case 0:
                return w.cls;
            case 1:
                return w.member;
            case 2:
                return w.out;
            case 3:
                return w.marks;
            case 4:
                return w.called;
            case 5:
                return w.threw;
            default:
                return OUTSIDE;
        }
    }

    public int call(int word, int on, int a, int b, int to) {
        int refused = refusal(word, on, a, b, to);
        return refused == NOT_REFUSED ? perform(words[word], on, a, b, to) : refused;
    }

    public int row(int word, int n, int on, int a, int b, int to) {
        if (!isWord(word)) {
            return NO_SUCH;
        }
        if (n < 1 || n > WORDS) {
            return OUTSIDE;
        }
        int cameBack = 0;
        for (int i = word; i < word + n && i < WORDS; i++) {
            if (refusal(i, on, a, b, to) == NOT_REFUSED
                    && perform(words[i], on, a, b, to) >= 0) {
                cameBack++;
            }
        }
        return cameBack;
    }

    public int latest() {
        return thrownLatest;
    }

    public int started(int cls) {
        return isClass(cls) ? startedAs[cls] : NO_SUCH;
    }

    public int share() throws ArithmeticException {
        if (allThrew == 0) {
            throw new ArithmeticException("no word threw");
        }
        return allCalled / allThrew;
    }

    private static boolean isKind(int kind) {
        return kind >= UNIT && kind <= ANY;
    }

    private static boolean isClass(int cls) {
        return cls >= 0 && cls < CLASSES;
    }

    private static boolean isMember(int cls, int m) {
        return isClass(cls) && m >= 0 && m < FIRST_MEMBER[cls + 1] - FIRST_MEMBER[cls];
    }

    private static int memberKind(int cls, int m, int what) {
        return MEMBER_KINDS[(FIRST_MEMBER[cls] + m) * 3 + what];
    }

    private static boolean mayComeAs(int ofMember, int told) {
        if (ofMember == ANY) {
            return told >= CELL;
        }
        return told == ofMember || (ofMember == CELL && told == TWICE);
    }

    private static boolean changesSomething(int cls, int m) {
        if (cls == MAKER) {
            return m <= MAKE_INTS;
        }
        if (cls == SHELVES) {
            return m == SHELF_PUT;
        }
        return m == SET || m == ADD || m == PUT || m == KEEP;
    }

    private static boolean isWord(int word) {
        return word >= 0 && word < WORDS;
    }

    private boolean isDeclared(int word) {
        return isWord(word) && words[word].isDeclared;
    }

    private int refusal(int word, int on, int a, int b, int to) {
        if (!isDeclared(word)) {
            return NO_SUCH;
        }
        Word w = words[word];
        boolean areThere = (w.cls == MAKER || isPlace(on))
                && (w.inA == UNIT || isPlace(a))
                && (w.inB == UNIT || isPlace(b))
                && isPlace(to);
        if (!areThere) {
            return NO_SUCH;
        }
        boolean fit = (w.cls == MAKER || places[on].mayGoAs(kindOfClass(w.cls)))
                && (w.inA == UNIT || places[a].mayGoAs(w.inA))
                && (w.inB == UNIT || places[b].mayGoAs(w.inB));
        return fit ? NOT_REFUSED : AS_TOLD;
    }

    private static int kindOfClass(int cls) {
        if (cls == CELLS) {
            return CELL;
        }
        return cls == TWICES ? TWICE : SHELF;
    }

    /** A call that is not refused: the KIND of what came, or EXCEPTION less what was THROWN. */
    private int perform(Word w, int on, int a, int b, int to) {
        start(w.cls);
        w.called++;
        allCalled++;
        came.holdNothing();
        int thrown = carryOut(w, placeLookedAt(on, w.cls != MAKER),
                placeLookedAt(a, w.inA != UNIT), placeLookedAt(b, w.inB != UNIT));
        if (thrown == CAME_BACK) {
            thrown = thrownAsItComes(w);
        }
        if (thrown != CAME_BACK) {
            w.threw++;
            allThrew++;
            thrownLatest = thrown;
            return EXCEPTION - thrown;
        }
        if (w.out != UNIT) {
            places[to].holdLike(came);
        }
        return came.kindHeld;
    }

    private void start(int cls) {
        if (cls == TWICES) {
            startOne(CELLS);
        }
        startOne(cls);
    }

    private void startOne(int cls) {
        if (startedAs[cls] == 0) {
            startedSoFar++;
            startedAs[cls] = startedSoFar;
        }
    }

    private Held placeLookedAt(int place, boolean isLookedAt) {
        return isLookedAt && isPlace(place) ? places[place] : notLookedAt;
    }

    /** No MEMBER takes two numbers or two OBJECTS, so that one of each is all that goes in. */
    private int carryOut(Word w, Held on, Held a, Held b) {
        int number = (int) a.whole;
        Thing thing = goesIn(w.inB == UNIT ? a.thing : b.thing, w.marks);
        if (w.cls == MAKER) {
            return maker.run(w.member, number, thing, came);
        }
        if (on.thing instanceof Cell cell) {
            return cell.run(w.member, number, thing, came);
        }
        if (on.thing instanceof Shelf shelf) {
            return shelf.run(w.member, number, thing, came);
        }
        return THROWS_NOTHING;
    }

    private Thing goesIn(Thing thing, int marks) {
        if ((marks & COPY) != 0 && thing instanceof Ints row) {
            twin.becomeLike(row);
            return twin;
        }
        return thing;
    }

    private int thrownAsItComes(Word w) {
        if (w.out < CELL) {
            return CAME_BACK;
        }
        if (came.thing == null) {
            return (w.marks & MAY) != 0 ? CAME_BACK : THROWS_NOTHING;
        }
        return came.thing.isOf(w.out) ? CAME_BACK : THROWS_CAST;
    }

    /** What a place holds, or what came out of a call. */
    private static final class Held {
        private static final int FRACTION_BITS = 52;
        private static final long FRACTION_SIZE = 4503599627370496L;
        private static final int EXPONENT_OF_ONE = 1023;
        private static final int MOST_EXPONENTS = 1100;

        /** UNIT: it holds NOTHING. */
        int kindHeld;
        long whole;
        double real;
        Thing thing;

        void holdNothing() {
            holdThing(null);
        }

        void holdWhole(int kind, long v) {
            kindHeld = kind;
            whole = v;
            real = 0;
            thing = null;
        }

        void holdReal(double v) {
            kindHeld = REAL;
            whole = 0;
            real = v;
            thing = null;
        }

        /** Null is NOTHING. */
        void holdThing(Thing t) {
            kindHeld = t == null ? UNIT : t.ownKind();
            whole = 0;
            real = 0;
            thing = t;
        }

        void holdLike(Held other) {
            kindHeld = other.kindHeld;
            whole = other.whole;
            real = other.real;
            thing = other.thing;
        }

        boolean isLike(Held other) {
            return kindHeld == other.kindHeld && thing == other.thing && told() == other.told();
        }

        boolean mayGoAs(int kind) {
            if (kind < CELL) {
                return kindHeld == kind;
            }
            return kindHeld == UNIT || (thing != null && thing.isOf(kind));
        }

        Ints asInts() {
            return thing instanceof Ints row ? row : null;
        }

        long told() {
            if (kindHeld == REAL) {
                return bits();
            }
            return kindHeld == INT || kindHeld == LONG ? whole : NOTHING;
        }

        /**
         * The language has no call for the bits. No call makes a REAL that is
         * no number, has no end or is -0.0: each is a whole number or half of one.
         */
        private long bits() {
            double size = real < 0 ? -real : real;
            if (size == 0) {
                return 0;
            }
            long exponent = EXPONENT_OF_ONE;
            for (int i = 0; i < MOST_EXPONENTS && size >= 2; i++) {
                size = size / 2;
                exponent++;
            }
            for (int i = 0; i < MOST_EXPONENTS && size < 1; i++) {
                size = size * 2;
                exponent--;
            }
            long fraction = (long) ((size - 1) * (double) FRACTION_SIZE);
            long sign = real < 0 ? Long.MIN_VALUE : 0;
            return sign | (exponent << FRACTION_BITS) | fraction;
        }
    }

    /** What a WORD was DECLARED as, and how it fared since. */
    private static final class Word {
        boolean isDeclared;
        int cls;
        int member;
        int inA;
        int inB;
        int out;
        int marks;
        int called;
        int threw;

        void declareAs(int ofClass, int m, int a, int b, int comes, int told) {
            isDeclared = true;
            cls = ofClass;
            member = m;
            inA = a;
            inB = b;
            out = comes;
            marks = told;
            called = 0;
            threw = 0;
        }
    }

    /** An OBJECT of the host. */
    private abstract static class Thing {
        abstract int ownKind();

        boolean isOf(int kind) {
            int own = ownKind();
            return kind == ANY || kind == own || (kind == CELL && own == TWICE);
        }
    }

    private static class Cell extends Thing {
        int v;
        Thing kept;

        Cell(int first) {
            v = first;
        }

        int ownKind() {
            return CELL;
        }

        int get() {
            return v;
        }

        /** What the MEMBER THROWS, or CAME_BACK; what comes is held by came. */
        int run(int m, int number, Thing given, Held came) {
            switch (m) {
                case GET:
                    came.holdWhole(INT, get());
                    return CAME_BACK;
                case SET:
                    v = number;
                    return CAME_BACK;
                case ADD:
                    v += number;
                    came.holdWhole(INT, get());
                    return CAME_BACK;
                case DIVIDE:
                    return divide(number, came);
                case WIDE:
                    came.holdWhole(LONG, get() * WIDE_FACTOR);
                    return CAME_BACK;
                case HALF:
                    came.holdReal(get() / 2.0);
                    return CAME_BACK;
                case IS_SAME:
                    came.holdWhole(INT, given == this ? 1 : 0);
                    return CAME_BACK;
                case PUT:
                    return put(given, came);
                case KEEP:
                    kept = given;
                    return CAME_BACK;
                case KEPT:
                    came.holdThing(kept);
                    return CAME_BACK;
                case SELF:
                default:
                    came.holdThing(this);
                    return CAME_BACK;
            }
        }

        private int divide(int by, Held came) {
            if (by == 0) {
                return THROWS_BY_ZERO;
            }
            came.holdWhole(INT, get() / by);
            return CAME_BACK;
        }

        private int put(Thing given, Held came) {
            if (!(given instanceof Ints row)) {
                return THROWS_NOTHING;
            }
            if (row.isOutside(v)) {
                return THROWS_INDEX;
            }
            row.cells[v] = get();
            came.holdWhole(INT, v);
            return CAME_BACK;
        }
    }

    private static final class Twice extends Cell {
        Twice(int first) {
            super(first);
        }

        int ownKind() {
            return TWICE;
        }

        int get() {
            return 2 * v;
        }
    }

    private static final class Shelf extends Thing {
        final Cell[] cells;
        final boolean isForTwicesAlone;

        /** The length is 0 to MOST_CELLS. */
        Shelf(int length, boolean forTwicesAlone) {
            cells = new Cell[length];
            isForTwicesAlone = forTwicesAlone;
        }

        int ownKind() {
            return SHELF;
        }

        /** What the MEMBER THROWS, or CAME_BACK; what comes is held by came. */
        int run(int m, int number, Thing given, Held came) {
            switch (m) {
                case SHELF_PUT:
                    return put(number, given);
                case SHELF_AT:
                    return at(number, came);
                case SHELF_SIZE:
                    came.holdWhole(INT, cells.length);
                    return CAME_BACK;
                case SHELF_SUM:
                    return sum(came);
                case SHELF_FIRST:
                default:
                    return first(given, came);
            }
        }

        private boolean isOutside(int i) {
            return i < 0 || i >= cells.length;
        }

        /** A put of NOTHING comes back for every SHELF, as it does in rows of Java. */
        private int put(int i, Thing given) {
            if (isOutside(i)) {
                return THROWS_INDEX;
            }
            Cell cell = given instanceof Cell c ? c : null;
            if (isForTwicesAlone && cell != null && !cell.isOf(TWICE)) {
                return THROWS_STORE;
            }
            cells[i] = cell;
            return CAME_BACK;
        }

        private int at(int i, Held came) {
            if (isOutside(i)) {
                return THROWS_INDEX;
            }
            came.holdThing(cells[i]);
            return CAME_BACK;
        }

        private int sum(Held came) {
            int sum = 0;
            for (int i = 0; i < cells.length; i++) {
                if (cells[i] == null) {
                    return THROWS_NOTHING;
                }
                sum += cells[i].get();
            }
            came.holdWhole(INT, sum);
            return CAME_BACK;
        }

        private int first(Thing given, Held came) {
            if (!(given instanceof Ints row)) {
                return THROWS_NOTHING;
            }
            if (row.isOutside(0)) {
                return THROWS_INDEX;
            }
            int found = -1;
            for (int i = 0; i < cells.length && found < 0; i++) {
                if (cells[i] == null) {
                    return THROWS_NOTHING;
                }
                if (cells[i].v == row.cells[0]) {
                    found = i;
                }
            }
            came.holdWhole(INT, found);
            return CAME_BACK;
        }
    }

    private static final class Ints extends Thing {
        final int[] cells;

        /** The twin has room for more cells than the row that it is like. */
        int length;

        /** The length is 0 to MOST_CELLS. */
        Ints(int length) {
            cells = new int[length];
            this.length = length;
        }

        int ownKind() {
            return INTS;
        }

        boolean isOutside(int i) {
            return i < 0 || i >= length;
        }

        void becomeLike(Ints other) {
            length = other.length;
            System.arraycopy(other.cells, 0, cells, 0, length);
        }
    }

    private static final class Maker {
        int made;

        /** What the MEMBER THROWS, or CAME_BACK; what comes is held by came. */
        int run(int m, int number, Thing given, Held came) {
            switch (m) {
                case MADE:
                    came.holdWhole(INT, made);
                    return CAME_BACK;
                case AS_TWICE:
                    if (given != null && !given.isOf(TWICE)) {
                        return THROWS_CAST;
                    }
                    came.holdThing(given);
                    return CAME_BACK;
                case MAKE_CELL:
                    return makes(new Cell(number), came);
                case MAKE_TWICE:
                    return makes(new Twice(number), came);
                default:
                    return number < 0 ? THROWS_LENGTH : makes(newOfLength(m, number), came);
            }
        }

        private static Thing newOfLength(int m, int told) {
            int length = Math.min(Math.max(told, 0), MOST_CELLS);
            if (m == MAKE_INTS) {
                return new Ints(length);
            }
            return new Shelf(length, m == MAKE_TWICES_SHELF);
        }

        private int makes(Thing thing, Held came) {
            made++;
            came.holdThing(thing);
            return CAME_BACK;
        }
    }
}
