/**
 * A JavaBridge that a test of edges uses: for no more calls than the document
 * promises anything about, and with short ways to call one MEMBER.
 */
final class Bridge {
    static final int MOST_CALLS = 512;

    /** Scratch of the short ways: the place of what goes in, the place of what comes, the WORD. */
    static final int NUMBER = 0;
    static final int TO = 9;
    static final int SCRATCH_WORD = 9;

    /** Of each MEMBER, as the document tells them: two KINDS that go in, one that comes. */
    private static final String[] CELLS = {"001", "100", "101", "101", "002", "003", "801", "701", "800", "008"};
    private static final String[] TWICES = {CELLS[0], CELLS[1], CELLS[2], CELLS[3], CELLS[4], CELLS[5], CELLS[6],
        CELLS[7], CELLS[8], CELLS[9], "005"};
    private static final String[] SHELVES = {"140", "104", "001", "001", "701"};
    private static final String[] MAKER = {"104", "105", "106", "106", "107", "001", "805"};
    private static final String[][] HOST = {CELLS, TWICES, SHELVES, MAKER};

    private final JavaBridge x = new JavaBridge();
    private int calls;

    /** KIND of a MEMBER by the document: 0, 1 of what goes in, 2 of what comes. */
    static int kindOf(int cls, int m, int what) {
        return HOST[cls][m].charAt(what) - '0';
    }

    static int membersOf(int cls) {
        return HOST[cls].length;
    }

    int calls() {
        return calls;
    }

    private JavaBridge next() {
        calls++;
        if (calls > MOST_CALLS) {
            throw new IllegalStateException("a test makes more calls than are promised");
        }
        return x;
    }

    int number(int place, int kind, long v) {
        return next().number(place, kind, v);
    }

    int move(int place, int from) {
        return next().move(place, from);
    }

    int kind(int place) {
        return next().kind(place);
    }

    long value(int place) {
        return next().value(place);
    }

    int same(int place, int other) {
        return next().same(place, other);
    }

    long cell(int place, int i) {
        return next().cell(place, i);
    }

    int set(int place, int i, int v) {
        return next().set(place, i, v);
    }

    int members(int cls) {
        return next().members(cls);
    }

    int member(int cls, int m, int what) {
        return next().member(cls, m, what);
    }

    int declare(int word, int cls, int m, int a, int b, int out, int marks) {
        return next().declare(word, cls, m, a, b, out, marks);
    }

    int word(int word, int what) {
        return next().word(word, what);
    }

    int call(int word, int on, int a, int b, int to) {
        return next().call(word, on, a, b, to);
    }

    int row(int word, int n, int on, int a, int b, int to) {
        return next().row(word, n, on, a, b, to);
    }

    int latest() {
        return next().latest();
    }

    int started(int cls) {
        return next().started(cls);
    }

    /** -1 where it throws by itself, -2 where the machine does. */
    long share() {
        return Check.share(next());
    }

    /** DECLARES a WORD by the MEMBER's own KINDS. */
    int declareOwn(int word, int cls, int m, int marks) {
        return declareAs(word, cls, m, kindOf(cls, m, 2), marks);
    }

    int declareAs(int word, int cls, int m, int out, int marks) {
        return declare(word, cls, m, kindOf(cls, m, 0), kindOf(cls, m, 1), out, marks);
    }

    /** Calls a MEMBER that takes nothing, or the INT n. */
    int ask(int cls, int m, int on, long n) {
        number(NUMBER, 1, n);
        return give(cls, m, on, NUMBER, 0);
    }

    /** Calls a MEMBER with what a place holds. */
    int give(int cls, int m, int on, int a, int marks) {
        declareOwn(SCRATCH_WORD, cls, m, marks);
        return call(SCRATCH_WORD, on, a, NUMBER, TO);
    }

    /** THE MAKER makes something, by a MEMBER 0 to 4, into a place. */
    int make(int m, long n, int place) {
        int answer = ask(3, m, NUMBER, n);
        move(place, TO);
        return answer;
    }

    /** Puts what a place holds into a cell of a SHELF. */
    int shelve(int shelf, long i, int what) {
        number(NUMBER, 1, i);
        declareOwn(SCRATCH_WORD, 2, 0, 0);
        return call(SCRATCH_WORD, shelf, NUMBER, what, TO);
    }

    /** What get() of a CELL or TWICE is. */
    long got(int place) {
        give(0, 0, place, NUMBER, 0);
        return value(TO);
    }

    /** How many OBJECTS THE MAKER made. */
    long made() {
        give(3, 5, NUMBER, NUMBER, 0);
        return value(TO);
    }
}
