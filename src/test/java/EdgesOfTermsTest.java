import java.util.function.ToLongFunction;

/** The document's terms, but for the text of the MEMBERS: each sentence that names a boundary case. */
public final class EdgesOfTermsTest {
    private static final long NOTHING = Long.MIN_VALUE;
    private static final int MOST = Integer.MAX_VALUE;
    private static final int LEAST = Integer.MIN_VALUE;

    private static final int CELL = Scene.CELL;
    private static final int TWICE = Scene.TWICE;
    private static final int SHELF = Scene.SHELF;
    private static final int TWICES = Scene.TWICES;
    private static final int ROW = Scene.ROW;
    private static final int EMPTY = Scene.EMPTY;
    private static final int NUMBER = Scene.NUMBER;
    private static final int TO = Scene.TO;

    /** KINDS that the places of a scene hold. */
    private static final int[] HELD = {1, 4, 5, 6, 6, 7, 2, 3, 0, 1};
    private static final Edges EDGES = new Edges("edges of terms");

    public static void main(String[] args) {
        lastCall();
        laterCalls();
        kinds();
        objects();
        fullPlaces();
        isOfKind();
        classes();
        keptAtFirst();
        shelvesAtFirst();
        wordsAreTen();
        membersByNumber();
        twoGoIn();
        sameKindsGoIn();
        may();
        copy();
        pure();
        castAsItComes();
        notLookedAt();
        kindsThatGoIn();
        kindsItIsCalledOn();
        whatComesGoes();
        whatComesThrows();
        starts();
        exceptions();
        whatWasDoneStays();
        noRoom();
        nothingIsTold();
        EDGES.end();
    }

    private static void due(String what, long got, long want) {
        EDGES.due(what, got, want);
    }

    private static void sentence(String words) {
        EDGES.sentence("Terms", words);
    }

    private static boolean isOf(int held, int kind) {
        return held >= 4 && (kind == 8 || held == kind || (held == 5 && kind == 4));
    }

    private static void lastCall() {
        EDGES.sentence("What it is", "An object is used for at most 512 calls after it has been made;");
        Bridge x = new Bridge();
        for (int word = 0; word < 10; word++) {
            x.declareOwn(word, 3, 4, 0);
        }
        x.number(0, 1, MOST);
        x.declareOwn(9, 3, 5, 0);
        int rows = Bridge.MOST_CALLS - x.calls() - 1;
        for (int i = 0; i < rows; i++) {
            due("all ten come back", x.row(0, 10, 0, 0, 0, 1), 10);
        }
        due("the last call but none", x.calls(), Bridge.MOST_CALLS - 1);
        due("the 512th call", x.value(1), 9L * rows);
    }

    /** What they answer is free; that they end without the machine's exceptions is LANGUAGE.md's rule 7. */
    private static void laterCalls() {
        EDGES.sentence("What it is", "what later calls answer is free.");
        JavaBridge x = new JavaBridge();
        int[] comes = {4, 5, 6, 6, 7};
        for (int word = 0; word < 10; word++) {
            x.declare(word, 3, word % 5, 1, 0, comes[word % 5], 0);
        }
        int ended = 0;
        for (int i = 0; i < 3000; i++) {
            x.number(0, 1, i - 1500);
            x.row(0, 10, i, 0, i, 1 + i % 9);
            x.call(i % 12 - 1, i % 11, i % 13, i % 7, i % 10);
            x.cell(i % 10, i % 20 - 2);
            ended++;
        }
        due("all of them end", ended, 3000);
    }

    private static void kinds() {
        sentence("KINDS: 0 UNIT, 1 INT, 2 LONG, 3 REAL (a double), 4 CELL, 5 TWICE, 6 SHELF, 7 INTS, 8 ANY.");
        Bridge x = Scene.filled();
        for (int place = 0; place < 10; place++) {
            due("what is in " + place, x.kind(place), HELD[place]);
        }
        x.number(TO, 2, 3);
        due("a LONG is told as it is", x.value(TO), 3);
        x.number(TO, 3, 3);
        due("a REAL is told as a double", x.value(TO), Double.doubleToLongBits(3.0));
        due("UNIT comes", x.ask(0, 1, CELL, 3), 0);
        due("an OBJECT's own KIND, where ANY comes", x.give(0, 9, CELL, NUMBER, 0), 5);
        due("8 is told of a MEMBER", x.member(0, 9, 2), 8);
    }

    private static void objects() {
        sentence("4 to 8 are OBJECTS: CELLS, TWICES (each is a CELL, too), SHELVES, INTS (rows of ints); "
            + "ANY is each of these.");
        for (int out = 4; out <= 8; out++) {
            due("an OBJECT comes as " + out + ", MAY", new Bridge().declareAs(0, 0, 9, out, 1), 1);
        }
        due("a REAL is no OBJECT", new Bridge().declareOwn(0, 0, 5, 1), -3);
        due("a REAL is no OBJECT", new Bridge().declareOwn(0, 0, 5, 0), 1);
        for (int place = 0; place < 10; place++) {
            boolean isLet = HELD[place] == 0 || HELD[place] >= 4;
            due("ANY: what is in " + place, Scene.filled().give(0, 8, CELL, place, 0), isLet ? 0 : -3);
        }
    }

    private static void fullPlaces() {
        sentence("PLACES 0 .. 9 hold NOTHING (at first), an INT, a LONG, a REAL, or an OBJECT; "
            + "several may hold the same one.");
        Bridge x = Scene.filled();
        for (int place = 0; place < 10; place++) {
            due("all hold the same row", x.move(place, ROW), 7);
        }
        x.set(0, 2, 33);
        for (int place = 0; place < 10; place++) {
            due("in place " + place, x.cell(place, 2), 33);
            due("the very same", x.same(0, place), 1);
        }
        for (int place = 0; place < 9; place++) {
            x.move(place, -1);
        }
        due("the last one holds it still", x.cell(9, 2), 33);
        for (int kind = 1; kind <= 3; kind++) {
            for (int place = 0; place < 10; place++) {
                x.number(place, kind, place);
            }
            for (int place = 0; place < 10; place++) {
                due("all hold KIND " + kind, x.kind(place), kind);
                due("each its own", x.same(place, (place + 1) % 10), 0);
            }
        }
    }

    private static void isOfKind() {
        sentence("An OBJECT IS of KIND 4 if it is a CELL or TWICE, of 5, 6, 7 if it is such, of 8 always.");
        for (int place = CELL; place <= ROW; place++) {
            int held = HELD[place];
            Bridge x = Scene.filled();
            x.give(0, 8, CELL, place, 0);
            for (int kind = 4; kind <= 8; kind++) {
                x.declareAs(9, 0, 9, kind, 0);
                due(held + " comes as " + kind, x.call(9, CELL, 0, 0, TO), isOf(held, kind) ? held : -12);
            }
            x.ask(0, 1, CELL, 0);
            due(held + " goes in as 4", x.shelve(SHELF, 0, place), isOf(held, 4) ? 0 : -3);
            due(held + " goes in as 7", x.give(0, 7, CELL, place, 0), isOf(held, 7) ? 1 : -3);
            due(held + " goes in as 8", x.give(0, 6, CELL, place, 0), 1);
            due(held + " is called on as 4", x.give(0, 0, place, NUMBER, 0), isOf(held, 4) ? 1 : -3);
            due(held + " is called on as 5", x.give(1, 0, place, NUMBER, 0), isOf(held, 5) ? 1 : -3);
            due(held + " is called on as 6", x.give(2, 2, place, NUMBER, 0), isOf(held, 6) ? 1 : -3);
        }
    }

    private static void classes() {
        sentence("CLASSES of the host: 0 CELLS, 1 TWICES, 2 SHELVES, 3 THE MAKER.");
        Bridge x = Scene.filled();
        due("a MEMBER of CLASS 0, on a CELL", x.ask(0, 0, CELL, 0), 1);
        due("its get", x.value(TO), 1);
        due("a MEMBER of CLASS 1, on a TWICE", x.ask(1, 0, TWICE, 0), 1);
        due("its get", x.value(TO), 10);
        due("a MEMBER of CLASS 2, on a SHELF", x.ask(2, 2, SHELF, 0), 1);
        due("its size", x.value(TO), 3);
        due("a MEMBER of CLASS 3, of THE MAKER", x.ask(3, 5, EMPTY, 0), 1);
        due("what it made", x.value(TO), 5);
    }

    private static void keptAtFirst() {
        sentence("CELLS, TWICES have a V (an int) and a KEPT (an OBJECT or nothing);");
        for (int m = 0; m < 2; m++) {
            Bridge x = new Bridge();
            x.make(m, 3, 1);
            due("a KEPT at first", x.give(m, 9, 1, 0, 0), -11);
            due("a KEPT at first, MAY", x.give(m, 9, 1, 0, 1), 0);
            x.give(0, 8, 1, 1, 0);
            x.ask(0, 1, 1, 6);
            due("KEPT behind another V", x.give(m, 9, 1, 0, 0), 4 + m);
            due("V behind it", x.got(1), m == 0 ? 6 : 12);
        }
        int[] numbers = {NUMBER, Scene.LONG, Scene.REAL};
        for (int number : numbers) {
            EDGES.refusedIn(EdgesOfTermsTest::filledWithKeep, "the number in " + number + " is not kept",
                x -> x.call(9, CELL, number, 0, TO), -3);
        }
    }

    private static Bridge filledWithKeep() {
        Bridge x = Scene.filled();
        x.declareOwn(9, 0, 8, 0);
        return x;
    }

    private static void shelvesAtFirst() {
        sentence("a SHELF has cells for CELLS, or for TWICES alone (nothing at first).");
        for (int maker = 2; maker <= 3; maker++) {
            Bridge x = Scene.filled();
            x.make(maker, 16, SHELF);
            for (int i = 0; i < 16; i++) {
                due("cell " + i + " at first", x.ask(2, 1, SHELF, i), -11);
                due("cell " + i + " takes a TWICE", x.shelve(SHELF, i, TWICE), 0);
                due("cell " + i + " takes a CELL", x.shelve(SHELF, i, CELL), maker == 2 ? 0 : -15);
                due("what is there", x.ask(2, 1, SHELF, i), maker == 2 ? 4 : 5);
            }
        }
    }

    private static void wordsAreTen() {
        sentence("WORDS 0 .. 9 are DECLARED for a MEMBER:");
        Bridge x = new Bridge();
        due("WORD -1", x.declareOwn(-1, 3, 5, 0), -1);
        due("WORD 10", x.declareOwn(10, 3, 5, 0), -1);
        for (int word = 0; word < 10; word++) {
            due("WORD " + word, x.declareOwn(word, 3, 5, 0), 1);
            due("call of " + word, x.call(word, 0, 0, 0, 0), 1);
        }
        due("call of -1", x.call(-1, 0, 0, 0, 0), -1);
        due("call of 10", x.call(10, 0, 0, 0, 0), -1);
    }

    private static void membersByNumber() {
        sentence("of a CLASS, by number, with KINDS of what goes in");
        Bridge x = Scene.filled();
        x.ask(0, 2, CELL, 2);
        due("2 of CLASS 0 is add", x.value(TO), 3);
        x.ask(1, 2, TWICE, 2);
        due("2 of CLASS 1 is add, of a TWICE", x.value(TO), 14);
        x.ask(2, 2, SHELF, 2);
        due("2 of CLASS 2 is size", x.value(TO), 3);
        due("2 of CLASS 3 is shelf", x.ask(3, 2, EMPTY, 2), 6);
    }

    private static void twoGoIn() {
        sentence("with KINDS of what goes in (two; UNIT: none),");
        due("none", new Bridge().declare(0, 0, 0, 0, 0, 1, 0), 1);
        due("one where none goes in", new Bridge().declare(0, 0, 0, 1, 0, 1, 0), -3);
        due("one", new Bridge().declare(0, 0, 1, 1, 0, 0, 0), 1);
        due("none where one goes in", new Bridge().declare(0, 0, 1, 0, 0, 0, 0), -3);
        due("two where one goes in", new Bridge().declare(0, 0, 1, 1, 4, 0, 0), -3);
        due("the other one where one goes in", new Bridge().declare(0, 0, 1, 0, 1, 0, 0), -2);
        due("two", new Bridge().declare(0, 2, 0, 1, 4, 0, 0), 1);
        due("two, the other way round", new Bridge().declare(0, 2, 0, 4, 1, 0, 0), -3);
        due("one where two go in", new Bridge().declare(0, 2, 0, 1, 0, 0, 0), -3);
        due("none where two go in", new Bridge().declare(0, 2, 0, 0, 0, 0, 0), -3);
    }

    private static void sameKindsGoIn() {
        sentence("It is held against the MEMBER: what goes in is of the same KINDS; what comes out: the same,");
        for (int cls = 0; cls < 4; cls++) {
            for (int m = 0; m < Bridge.membersOf(cls); m++) {
                int own = Bridge.kindOf(cls, m, 0);
                due("CLASS " + cls + " MEMBER " + m + " as it is", new Bridge().declareOwn(0, cls, m, 0), 1);
                int[] beside = {own - 1, own + 1};
                for (int kind : beside) {
                    boolean isKind = kind >= 0 && kind <= 8 && (kind != 0 || Bridge.kindOf(cls, m, 1) == 0);
                    due("CLASS " + cls + " MEMBER " + m + " with " + kind + " for " + own,
                        new Bridge().declare(0, cls, m, kind, Bridge.kindOf(cls, m, 1), Bridge.kindOf(cls, m, 2), 0),
                        isKind ? -3 : -2);
                }
            }
        }
    }

    private static void may() {
        sentence("1 MAY: nothing may come;");
        Bridge x = Scene.filled();
        x.number(NUMBER, 1, 2);
        due("nothing, without", x.give(2, 1, SHELF, NUMBER, 0), -11);
        due("the place stays", x.value(TO), Scene.TO_HOLDS);
        due("nothing, with", x.give(2, 1, SHELF, NUMBER, 1), 0);
        due("the place holds NOTHING", x.kind(TO), 0);
        x.number(NUMBER, 1, 1);
        due("something, with", x.give(2, 1, SHELF, NUMBER, 1), 5);
        x.number(NUMBER, 1, 0);
        x.declareAs(9, 2, 1, 5, 1);
        due("what it is not CAST to, with", x.call(9, SHELF, NUMBER, 0, TO), -12);
        due("on NOTHING, with", x.call(9, EMPTY, NUMBER, 0, TO), -11);
        due("the place stays", x.kind(TO), 5);
    }

    private static void copy() {
        sentence("2 COPY: INTS that go in go as a twin;");
        for (int cls = 0; cls < 2; cls++) {
            Bridge x = Scene.filled();
            x.ask(0, 1, TWICE, 2);
            due("with", x.give(cls, 7, TWICE, ROW, 2), 1);
            due("its V", x.value(TO), 2);
            due("the row stays", x.cell(ROW, 2), 9);
            due("without", x.give(cls, 7, TWICE, ROW, 0), 1);
            due("the row is changed", x.cell(ROW, 2), 4);
            due("NOTHING, with", x.give(cls, 7, TWICE, EMPTY, 2), -11);
        }
        EDGES.refused("told where ANY goes in", x -> x.declareOwn(0, 0, 8, 2), -3);
        Bridge x = Scene.filled();
        x.give(0, 8, CELL, ROW, 0);
        x.give(0, 9, CELL, NUMBER, 0);
        due("a row that is kept is the very same", x.same(TO, ROW), 1);
    }

    private static void pure() {
        sentence("4 PURE: it is told so.");
        Bridge x = Scene.filled();
        Bridge y = Scene.filled();
        x.declareOwn(9, 1, 3, 4);
        y.declareOwn(9, 1, 3, 0);
        for (int by = -1; by <= 1; by++) {
            x.number(NUMBER, 1, by);
            y.number(NUMBER, 1, by);
            due("a call is as without", x.call(9, TWICE, NUMBER, 0, TO), y.call(9, TWICE, NUMBER, 0, TO));
            due("what comes is as without", x.value(TO), y.value(TO));
        }
        due("it THREW once", x.word(9, 5), 1);
    }

    private static void castAsItComes() {
        sentence("if that of the MEMBER is ANY or CELL, an OBJECT's KIND that may be of it "
            + "(of ANY 4 to 7; of CELL 5): it is CAST then as it comes.");
        for (int out = 0; out <= 8; out++) {
            due("ANY as " + out, new Bridge().declareAs(0, 0, 9, out, 0), out >= 4 ? 1 : -3);
            due("CELL as " + out, new Bridge().declareAs(0, 2, 1, out, 0), out == 4 || out == 5 ? 1 : -3);
            due("CELL of THE MAKER as " + out, new Bridge().declareAs(0, 3, 0, out, 0),
                out == 4 || out == 5 ? 1 : -3);
            due("TWICE as " + out, new Bridge().declareAs(0, 3, 1, out, 0), out == 5 ? 1 : -3);
            due("SHELF as " + out, new Bridge().declareAs(0, 3, 2, out, 0), out == 6 ? 1 : -3);
            due("INTS as " + out, new Bridge().declareAs(0, 3, 4, out, 0), out == 7 ? 1 : -3);
            due("INT as " + out, new Bridge().declareAs(0, 0, 0, out, 0), out == 1 ? 1 : -3);
            due("UNIT as " + out, new Bridge().declareAs(0, 0, 1, out, 0), out == 0 ? 1 : -3);
        }
        Bridge x = Scene.filled();
        x.number(NUMBER, 1, 0);
        due("a CELL as TWICE", x.call(Scene.AT, SHELF, NUMBER, 0, TO), -12);
        x.number(NUMBER, 1, 1);
        due("a TWICE as TWICE", x.call(Scene.AT, SHELF, NUMBER, 0, TO), 5);
        due("a TWICE as CELL: its own KIND", x.give(2, 1, SHELF, NUMBER, 0), 5);
    }

    private static void notLookedAt() {
        sentence("on the OBJECT in a place (not looked at for CLASS 3), with what two places hold "
            + "(not looked at where UNIT is told):");
        int[] any = {-1, 10, LEAST, MOST, NUMBER, SHELF, EMPTY};
        for (int p : any) {
            for (int q : any) {
                Bridge x = Scene.filled();
                due("THE MAKER's cell on " + p + " with " + q, x.call(Scene.MAKE, p, NUMBER, q, TO), 4);
                x.declareOwn(9, 3, 5, 0);
                due("THE MAKER's made on " + p + " with " + q, x.call(9, p, q, q, TO), 1);
                due("kept with " + p + " and " + q, x.call(Scene.KEPT, CELL, p, q, TO), 5);
                due("add with " + q, x.call(Scene.ADD, CELL, NUMBER, q, TO), 1);
            }
        }
    }

    private static void kindsThatGoIn() {
        sentence("these must be of the KINDS told (INT, LONG, REAL as such; OBJECTS, or NOTHING);");
        int[] asInt = {1, -3, -3, -3, -3, -3, -3, -3, -3, 1};
        int[] asIndex = {0, -3, -3, -3, -3, -3, -3, -3, -3, -13};
        int[] asInts = {-3, -3, -3, -3, -3, 1, -3, -3, -11, -3};
        int[] asCell = {-3, 0, 0, -3, -3, -3, -3, -3, 0, -3};
        for (int place = 0; place < 10; place++) {
            int given = place;
            String what = ": what is in " + place;
            goesIn("INT" + what, x -> x.call(Scene.ADD, CELL, given, 0, TO), asInt[place]);
            goesIn("INT of two" + what, x -> x.call(Scene.SHELVE, SHELF, given, CELL, TO), asIndex[place]);
            goesIn("INTS" + what, x -> x.call(Scene.PUT, CELL, given, 0, TO), asInts[place]);
            goesIn("CELL of two" + what, x -> x.call(Scene.SHELVE, SHELF, NUMBER, given, TO), asCell[place]);
        }
        EDGES.refused("KINDS ahead of NOTHING that it is called on",
            x -> x.call(Scene.SHELVE, EMPTY, NUMBER, ROW, TO), -3);
        EDGES.refused("KINDS ahead of what is THROWN", x -> x.call(Scene.ADD, EMPTY, Scene.LONG, 0, TO), -3);
    }

    private static void goesIn(String what, ToLongFunction<Bridge> call, int want) {
        if (want == -3) {
            EDGES.refused(what, call, want);
        } else {
            due(what, call.applyAsLong(Scene.filled()), want);
        }
    }

    private static void kindsItIsCalledOn() {
        sentence("the OBJECT it is called on of the CLASS (a TWICE is of CLASS 0, too), or NOTHING: THROWS 1.");
        int[] words = {Scene.KEPT, Scene.SELF, Scene.SHELVE};
        int[][] answers = {
            {-3, 5, 0, -3, -3, -3, -3, -3, -11, -3},
            {-3, -3, 5, -3, -3, -3, -3, -3, -11, -3},
            {-3, -3, -3, 0, -15, -3, -3, -3, -11, -3}};
        for (int cls = 0; cls < 3; cls++) {
            int word = words[cls];
            for (int place = 0; place < 10; place++) {
                int on = place;
                goesIn("CLASS " + cls + " on what is in " + place, x -> x.call(word, on, NUMBER, CELL, TO),
                    answers[cls][place]);
            }
            EDGES.thrown("CLASS " + cls + " on NOTHING", x -> { }, x -> x.call(word, EMPTY, NUMBER, CELL, TO), 1);
        }
    }

    private static void whatComesGoes() {
        sentence("If it comes back, what comes goes into a place (UNIT: it stays):");
        for (int to = 0; to < 10; to++) {
            Bridge x = Scene.filled();
            due("an INT into " + to, x.call(Scene.ADD, CELL, NUMBER, 0, to), 1);
            due("it is there", x.kind(to), 1);
            due("its value", x.value(to), 1);
            due("an OBJECT into " + to, x.call(Scene.SELF, to == TWICE ? EMPTY : TWICE, 0, 0, to),
                to == TWICE ? -11 : 5);
            due("it is there", x.kind(to), to == TWICE ? 1 : 5);
            Bridge y = Scene.filled();
            y.declareOwn(9, 0, 1, 0);
            due("UNIT, for " + to, y.call(9, CELL, NUMBER, 0, to), 0);
            due("it stays", y.kind(to), HELD[to]);
            Bridge z = Scene.filled();
            z.give(0, 8, CELL, EMPTY, 0);
            due("NOTHING, MAY, into " + to, z.call(Scene.KEPT, CELL, 0, 0, to), 0);
            due("it holds NOTHING", z.kind(to), 0);
        }
    }

    private static void whatComesThrows() {
        sentence("an OBJECT that it is not CAST to: THROWS 2; nothing, where it is no MAY: THROWS 1; "
            + "nothing, where it is: NOTHING.");
        for (int place = CELL; place <= ROW; place++) {
            for (int kind = 4; kind <= 8; kind++) {
                for (int marks = 0; marks < 2; marks++) {
                    comesAs(place, kind, marks);
                }
            }
        }
        for (int kind = 4; kind <= 8; kind++) {
            int out = kind;
            EDGES.thrown("nothing as " + kind, x -> {
                x.give(0, 8, CELL, EMPTY, 0);
                x.declareAs(9, 0, 9, out, 0);
            }, x -> x.call(9, CELL, 0, 0, TO), 1);
            Bridge x = Scene.filled();
            x.give(0, 8, CELL, EMPTY, 0);
            x.declareAs(9, 0, 9, kind, 1);
            due("nothing as " + kind + ", MAY", x.call(9, CELL, 0, 0, TO), 0);
            due("NOTHING", x.kind(TO), 0);
            due("it did not THROW", x.word(9, 5), 0);
        }
    }

    private static void comesAs(int place, int kind, int marks) {
        String what = HELD[place] + " as " + kind + " MARKS " + marks;
        if (isOf(HELD[place], kind)) {
            Bridge x = Scene.filled();
            x.give(0, 8, CELL, place, 0);
            x.declareAs(9, 0, 9, kind, marks);
            due(what, x.call(9, CELL, 0, 0, TO), HELD[place]);
            due(what + " is there", x.same(TO, place), 1);
            return;
        }
        EDGES.thrown(what, x -> {
            x.give(0, 8, CELL, place, 0);
            x.declareAs(9, 0, 9, kind, marks);
        }, x -> x.call(9, CELL, 0, 0, TO), 2);
    }

    private static void starts() {
        sentence("A CLASS STARTS as a WORD of it is first called (behind REFUSALS; for CLASS 1: CLASS 0 first).");
        Bridge x = new Bridge();
        x.declareOwn(0, 1, 10, 0);
        x.number(1, 1, 5);
        x.call(0, 1, 0, 0, 2);
        x.call(0, 0, 0, 0, 10);
        x.call(0, 10, 0, 0, 2);
        started(x, "refused", 0, 0, 0, 0);
        x.call(0, 0, 0, 0, 2);
        started(x, "CLASS 1, on NOTHING", 1, 2, 0, 0);
        x.call(0, 0, 0, 0, 2);
        started(x, "CLASS 1 again", 1, 2, 0, 0);
        x.declareOwn(0, 3, 4, 0);
        x.number(1, 1, -1);
        x.call(0, 0, 1, 0, 2);
        started(x, "CLASS 3, THROWS 6", 1, 2, 0, 3);
        x.declareOwn(0, 2, 2, 0);
        started(x, "DECLARED alone", 1, 2, 0, 3);
        x.row(0, 1, 0, 0, 0, 2);
        started(x, "CLASS 2, in a row", 1, 2, 4, 3);
        Bridge y = Scene.filled();
        started(y, "the scene: THE MAKER, CELLS, SHELVES", 2, 0, 3, 1);
        y.call(Scene.SELF, CELL, 0, 0, TO);
        started(y, "refused", 2, 0, 3, 1);
        y.call(Scene.KEPT, TWICE, 0, 0, TO);
        started(y, "CLASS 0 on a TWICE", 2, 0, 3, 1);
        y.call(Scene.SELF, TWICE, 0, 0, TO);
        started(y, "CLASS 1, where 0 has STARTED", 2, 4, 3, 1);
    }

    private static void started(Bridge x, String what, int cells, int twices, int shelves, int maker) {
        due(what + ": CELLS", x.started(0), cells);
        due(what + ": TWICES", x.started(1), twices);
        due(what + ": SHELVES", x.started(2), shelves);
        due(what + ": THE MAKER", x.started(3), maker);
    }

    private static void exceptions() {
        sentence("What is THROWN is an EXCEPTION: it answers -10 less the KIND of what was THROWN; "
            + "nothing goes into the place;");
        for (int to = 0; to < 10; to++) {
            int into = to;
            EDGES.thrown("1 into " + to, x -> { }, x -> x.call(Scene.KEPT, EMPTY, 0, 0, into), 1);
            EDGES.thrown("2 into " + to, x -> { }, x -> x.call(Scene.AT, SHELF, NUMBER, 0, into), 2);
            EDGES.thrown("3 into " + to, x -> x.number(NUMBER, 1, 3),
                x -> x.call(Scene.AT, SHELF, NUMBER, 0, into), 3);
            EDGES.thrown("4 into " + to, x -> { }, x -> x.call(Scene.DIVIDE, CELL, NUMBER, 0, into), 4);
            EDGES.thrown("5 into " + to, x -> { }, x -> x.call(Scene.SHELVE, TWICES, NUMBER, CELL, into), 5);
            EDGES.thrown("6 into " + to, x -> {
                x.number(NUMBER, 1, -1);
                x.declareOwn(9, 3, 4, 0);
            }, x -> x.call(9, 0, NUMBER, 0, into), 6);
        }
    }

    private static void whatWasDoneStays() {
        sentence("nothing goes into the place; but what was done before it stays.");
        Bridge x = Scene.filled();
        long made = x.made();
        x.number(TO, 1, 1);
        x.declareAs(9, 3, 0, 5, 0);
        due("a CELL that is not CAST to TWICE", x.call(9, 0, TO, 0, CELL), -12);
        due("the place stays", x.kind(CELL), 4);
        due("its V stays", x.got(CELL), 1);
        due("the CELL was made", x.made(), made + 1);
        Bridge y = Scene.filled();
        y.call(Scene.SELF, EMPTY, 0, 0, TO);
        due("the CLASS has STARTED", y.started(1), 4);
        due("the WORD was called", y.word(Scene.SELF, 4), 1);
    }

    private static void noRoom() {
        sentence("-1 there is no such place, class, member, word; -2 outside its bounds; -3 as told; -4 no room.");
        Bridge x = new Bridge();
        for (int place = 0; place < 10; place++) {
            x.number(place, 1, place);
            x.declareOwn(place, 3, 4, 0);
        }
        for (int i = 0; i < 10; i++) {
            due("a number where all places are full", x.number(i, 2, 1), 1);
            due("a WORD where all are DECLARED", x.declareOwn(i, 3, 4, 0), 1);
        }
        x.number(0, 1, MOST);
        for (int i = 0; i < 40; i++) {
            due("INTS are made without end", x.row(0, 10, 0, 0, 0, 1), 10);
        }
        due("made", x.made(), 400);
    }

    private static void nothingIsTold() {
        sentence("NOTHING is told as Long.MIN_VALUE where a long is answered.");
        due("the constant", JavaBridge.NOTHING, NOTHING);
        Bridge x = Scene.filled();
        due("value of NOTHING", x.value(EMPTY), NOTHING);
        due("value of an OBJECT", x.value(CELL), NOTHING);
        due("value of no place", x.value(10), NOTHING);
        due("cell of NOTHING", x.cell(EMPTY, 0), NOTHING);
        due("cell outside", x.cell(ROW, 3), NOTHING);
        due("cell of no place", x.cell(-1, 0), NOTHING);
        x.set(ROW, 0, LEAST);
        due("the least int in a cell is not NOTHING", x.cell(ROW, 0), LEAST);
        x.number(TO, 1, LEAST);
        due("the least INT is not NOTHING", x.value(TO), LEAST);
        x.number(TO, 2, NOTHING);
        due("the least LONG is told alike, but is a LONG", x.kind(TO), 2);
    }
}
