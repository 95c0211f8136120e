/** Promises 9 to 12: each sentence that names a boundary case. */
public final class EdgesOfWordsTest {
    private static final int MOST = Integer.MAX_VALUE;
    private static final int LEAST = Integer.MIN_VALUE;
    private static final int[] NO_CLASSES = {-1, 4, LEAST, MOST};
    private static final int[] NO_WORDS = {-1, 10, LEAST, MOST};
    private static final Edges EDGES = new Edges("edges of words");

    public static void main(String[] args) {
        members();
        member();
        memberRefused();
        declared();
        declareNoSuch();
        declareOutside();
        declareUnfit();
        declareMarks();
        declareFirstRefusal();
        word();
        wordCounts();
        wordRefused();
        EDGES.end();
    }

    private static void due(String what, long got, long want) {
        EDGES.due(what, got, want);
    }

    private static void members() {
        EDGES.sentence("Promise 9: members", "How many MEMBERS a CLASS has (of 1: 11). -1.");
        int[] counts = {10, 11, 5, 7};
        Bridge x = new Bridge();
        for (int cls = 0; cls < 4; cls++) {
            due("CLASS " + cls, x.members(cls), counts[cls]);
        }
        for (int cls : NO_CLASSES) {
            EDGES.refusedAlsoAtFirst("CLASS " + cls, y -> y.members(cls), -1);
        }
    }

    private static void member() {
        EDGES.sentence("Promise 10: member", "The KIND of MEMBER m: 0, 1 of what goes in, 2 of what comes.");
        Bridge x = new Bridge();
        for (int cls = 0; cls < 4; cls++) {
            for (int m = 0; m < Bridge.membersOf(cls); m++) {
                for (int what = 0; what < 3; what++) {
                    due("CLASS " + cls + " MEMBER " + m + " what " + what, x.member(cls, m, what),
                        Bridge.kindOf(cls, m, what));
                }
            }
        }
    }

    private static void memberRefused() {
        EDGES.sentence("Promise 10: member", "2 of what comes. -1; -2.");
        int[] noWhats = {-1, 3, LEAST, MOST};
        for (int cls : NO_CLASSES) {
            EDGES.refusedAlsoAtFirst("CLASS " + cls, x -> x.member(cls, 0, 0), -1);
            EDGES.refused("CLASS " + cls + " ahead of what", x -> x.member(cls, 0, 3), -1);
        }
        for (int cls = 0; cls < 4; cls++) {
            int of = cls;
            int[] noMembers = {-1, Bridge.membersOf(cls), LEAST, MOST};
            for (int m : noMembers) {
                EDGES.refused("CLASS " + cls + " MEMBER " + m, x -> x.member(of, m, 0), -1);
                EDGES.refused("CLASS " + cls + " MEMBER " + m + " ahead of what", x -> x.member(of, m, -1), -1);
            }
            int last = Bridge.membersOf(cls) - 1;
            for (int what : noWhats) {
                EDGES.refused("the first of " + cls + " what " + what, x -> x.member(of, 0, what), -2);
                EDGES.refused("the last of " + cls + " what " + what, x -> x.member(of, last, what), -2);
            }
        }
    }

    private static void declared() {
        EDGES.sentence("Promise 11: declare", "A WORD is DECLARED, in place of what it was: 1.");
        Bridge x = new Bridge();
        due("the first WORD", x.declare(0, 0, 0, 0, 0, 1, 0), 1);
        due("the last WORD", x.declare(9, 3, 6, 8, 0, 5, 1), 1);
        due("no other WORD", x.word(1, 0), -1);
        due("no other WORD", x.word(8, 0), -1);
        for (int word = 0; word < 10; word++) {
            due("all of them: " + word, x.declare(word, 1, 10, 0, 0, 5, 5), 1);
        }
        for (int word = 0; word < 10; word++) {
            due("where all are DECLARED: " + word, x.declare(word, 2, 4, 7, 0, 1, 6), 1);
            due("its CLASS", x.word(word, 0), 2);
            due("its MEMBER", x.word(word, 1), 4);
            due("its KIND", x.word(word, 2), 1);
            due("its MARKS", x.word(word, 3), 6);
        }
        for (int cls = 0; cls < 4; cls++) {
            due("no CLASS STARTS by it: " + cls, x.started(cls), 0);
        }
        Bridge y = Scene.filled();
        due("in place of one that was called and THREW", y.declareOwn(Scene.DIVIDE, 0, 0, 0), 1);
        due("it was not called", y.word(Scene.DIVIDE, 4), 0);
        due("nor THREW", y.word(Scene.DIVIDE, 5), 0);
        due("the other was called", y.word(Scene.ADD, 4), 1);
    }

    private static void declareNoSuch() {
        EDGES.sentence("Promise 11: declare", "-1: the word, CLASS, MEMBER;");
        for (int word : NO_WORDS) {
            EDGES.refusedAlsoAtFirst("WORD " + word, x -> x.declare(word, 0, 0, 0, 0, 1, 0), -1);
        }
        for (int cls : NO_CLASSES) {
            EDGES.refusedAlsoAtFirst("CLASS " + cls, x -> x.declare(Scene.ADD, cls, 0, 0, 0, 1, 0), -1);
        }
        for (int cls = 0; cls < 4; cls++) {
            int of = cls;
            int last = Bridge.membersOf(cls) - 1;
            due("the first of " + cls, new Bridge().declareOwn(0, cls, 0, 0), 1);
            due("the last of " + cls, new Bridge().declareOwn(0, cls, last, 0), 1);
            int[] noMembers = {-1, last + 1, LEAST, MOST};
            for (int m : noMembers) {
                EDGES.refused("MEMBER " + m + " of " + cls, x -> x.declare(Scene.ADD, of, m, 0, 0, 5, 0), -1);
            }
        }
    }

    private static void declareOutside() {
        EDGES.sentence("Promise 11: declare", "-2: KINDS 0 to 8 (in: no UNIT ahead of another), MARKS 0 to 7;");
        int[] noKinds = {-1, 9, LEAST, MOST};
        for (int kind : noKinds) {
            EDGES.refusedAlsoAtFirst("goes in first: " + kind, x -> x.declare(0, 2, 0, kind, 4, 0, 0), -2);
            EDGES.refusedAlsoAtFirst("goes in next: " + kind, x -> x.declare(0, 2, 0, 1, kind, 0, 0), -2);
            EDGES.refusedAlsoAtFirst("comes: " + kind, x -> x.declare(0, 2, 0, 1, 4, kind, 0), -2);
        }
        for (int kind = 1; kind <= 8; kind++) {
            int next = kind;
            EDGES.refused("UNIT ahead of " + kind, x -> x.declare(0, 2, 0, 0, next, 0, 0), -2);
        }
        int[] noMarks = {-1, 8, LEAST, MOST, 9};
        for (int marks : noMarks) {
            EDGES.refusedAlsoAtFirst("MARKS " + marks, x -> x.declare(0, 0, 0, 0, 0, 1, marks), -2);
        }
        due("KINDS 8 and 0", new Bridge().declare(0, 0, 8, 8, 0, 0, 0), 1);
        due("KINDS 0 and 8", new Bridge().declare(0, 0, 9, 0, 0, 8, 0), 1);
        due("MARKS 0", new Bridge().declare(0, 0, 9, 0, 0, 8, 0), 1);
        due("MARKS 5", new Bridge().declare(0, 0, 9, 0, 0, 8, 5), 1);
        due("MARKS 7 are let, but no MEMBER takes INTS and gives an OBJECT",
            new Bridge().declare(0, 0, 9, 0, 0, 8, 7), -3);
    }

    private static void declareUnfit() {
        EDGES.sentence("Promise 11: declare", "-3: it does not fit;");
        for (int cls = 0; cls < 4; cls++) {
            for (int m = 0; m < Bridge.membersOf(cls); m++) {
                unfitKinds(cls, m);
            }
        }
        EDGES.refusedAlsoAtFirst("one goes in where none does", x -> x.declare(0, 0, 0, 1, 0, 1, 0), -3);
        EDGES.refusedAlsoAtFirst("two go in where one does", x -> x.declare(0, 0, 1, 1, 1, 0, 0), -3);
        EDGES.refusedAlsoAtFirst("one goes in where two do", x -> x.declare(0, 2, 0, 1, 0, 0, 0), -3);
        EDGES.refused("a TWICE goes in for a CELL", x -> x.declare(0, 2, 0, 1, 5, 0, 0), -3);
        EDGES.refused("ANY goes in for a CELL", x -> x.declare(0, 2, 0, 1, 8, 0, 0), -3);
        EDGES.refused("a TWICE goes in for ANY", x -> x.declare(0, 3, 6, 5, 0, 5, 0), -3);
        EDGES.refused("ANY comes of a CELL", x -> x.declare(0, 2, 1, 1, 0, 8, 0), -3);
        EDGES.refused("a CELL comes of a TWICE", x -> x.declare(0, 1, 10, 0, 0, 4, 0), -3);
        EDGES.refused("a number comes of ANY", x -> x.declare(0, 0, 9, 0, 0, 3, 0), -3);
        EDGES.refused("UNIT comes of ANY", x -> x.declare(0, 0, 9, 0, 0, 0, 0), -3);
        EDGES.refused("a SHELF comes of a CELL", x -> x.declare(0, 2, 1, 1, 0, 6, 0), -3);
        EDGES.refused("INT comes of UNIT", x -> x.declare(0, 0, 1, 1, 0, 1, 0), -3);
    }

    /** Of each KIND that is told, all others are as the MEMBER's. */
    private static void unfitKinds(int cls, int m) {
        int a = Bridge.kindOf(cls, m, 0);
        int b = Bridge.kindOf(cls, m, 1);
        int out = Bridge.kindOf(cls, m, 2);
        String of = "CLASS " + cls + " MEMBER " + m;
        Bridge x = new Bridge();
        for (int kind = 0; kind <= 8; kind++) {
            int firstDue = kind == a ? 1 : kind == 0 && b != 0 ? -2 : -3;
            due(of + " goes in first " + kind, x.declare(0, cls, m, kind, b, out, 0), firstDue);
            int nextDue = kind == b ? 1 : a == 0 ? -2 : -3;
            due(of + " goes in next " + kind, x.declare(0, cls, m, a, kind, out, 0), nextDue);
            boolean fits = kind == out || (out == 8 && kind >= 4 && kind <= 7) || (out == 4 && kind == 5);
            due(of + " comes " + kind, x.declare(0, cls, m, a, b, kind, 0), fits ? 1 : -3);
        }
    }

    private static void declareMarks() {
        EDGES.sentence("Promise 11: declare", "2 told where no INTS go in, 1 where no OBJECT comes, "
            + "4 of a MEMBER that changes something (1, 2, 7, 8 of CLASSES 0, 1; 0 of 2; 0 to 4 of 3).");
        String[] changing = {"1 2 7 8", "1 2 7 8", "0", "0 1 2 3 4"};
        for (int cls = 0; cls < 4; cls++) {
            for (int m = 0; m < Bridge.membersOf(cls); m++) {
                int own = m;
                boolean takesInts = Bridge.kindOf(cls, m, 0) == 7;
                boolean givesObject = Bridge.kindOf(cls, m, 2) >= 4;
                boolean changes = java.util.Arrays.stream(changing[cls].split(" "))
                    .anyMatch(t -> t.equals(String.valueOf(own)));
                mark(cls, m, 0, true);
                mark(cls, m, 1, givesObject);
                mark(cls, m, 2, takesInts);
                mark(cls, m, 3, givesObject && takesInts);
                mark(cls, m, 4, !changes);
                mark(cls, m, 5, givesObject && !changes);
                mark(cls, m, 6, takesInts && !changes);
                mark(cls, m, 7, takesInts && givesObject && !changes);
            }
        }
    }

    private static void mark(int cls, int m, int marks, boolean isLet) {
        String what = "CLASS " + cls + " MEMBER " + m + " MARKS " + marks;
        if (!isLet) {
            EDGES.refused(what, x -> x.declareOwn(Scene.DIVIDE, cls, m, marks), -3);
            return;
        }
        Bridge x = new Bridge();
        due(what, x.declareOwn(0, cls, m, marks), 1);
        due(what + " are told", x.word(0, 3), marks);
    }

    private static void declareFirstRefusal() {
        EDGES.sentence("Terms", "REFUSALS change nothing; of several the first one here:");
        EDGES.refusedAlsoAtFirst("WORD ahead of KINDS", x -> x.declare(10, 0, 0, 9, 0, 1, 0), -1);
        EDGES.refusedAlsoAtFirst("WORD ahead of MARKS", x -> x.declare(-1, 0, 0, 0, 0, 1, 8), -1);
        EDGES.refusedAlsoAtFirst("WORD ahead of what fits", x -> x.declare(10, 0, 0, 0, 0, 2, 0), -1);
        EDGES.refused("CLASS ahead of KINDS", x -> x.declare(0, 4, 0, -1, 0, 1, 0), -1);
        EDGES.refused("CLASS ahead of MARKS", x -> x.declare(0, -1, 0, 0, 0, 1, -1), -1);
        EDGES.refused("MEMBER ahead of KINDS", x -> x.declare(0, 2, 5, 0, 9, 1, 0), -1);
        EDGES.refused("MEMBER ahead of UNIT ahead of another", x -> x.declare(0, 0, 10, 0, 1, 1, 0), -1);
        EDGES.refused("MEMBER ahead of MARKS", x -> x.declare(0, 3, 7, 0, 0, 1, 8), -1);
        EDGES.refused("KINDS ahead of what fits", x -> x.declare(0, 0, 0, 1, 0, 9, 0), -2);
        EDGES.refused("UNIT ahead of another ahead of what fits", x -> x.declare(0, 0, 0, 0, 1, 2, 0), -2);
        EDGES.refused("MARKS ahead of what fits", x -> x.declare(0, 0, 0, 1, 0, 1, 8), -2);
        EDGES.refused("KINDS ahead of 4 told", x -> x.declare(0, 0, 1, 1, -1, 0, 4), -2);
        EDGES.refused("MARKS ahead of 2 told", x -> x.declare(0, 0, 0, 0, 0, 1, 10), -2);
        EDGES.refused("all of them", x -> x.declare(10, 4, 99, 9, 9, 9, 9), -1);
    }

    private static void word() {
        EDGES.sentence("Promise 12: word", "Of a WORD: 0 CLASS, 1 MEMBER, 2 KIND of what comes, 3 MARKS,");
        for (int cls = 0; cls < 4; cls++) {
            for (int m = 0; m < Bridge.membersOf(cls); m++) {
                Bridge x = new Bridge();
                x.declareOwn(9, cls, m, 0);
                due("CLASS of " + cls + " " + m, x.word(9, 0), cls);
                due("MEMBER of " + cls + " " + m, x.word(9, 1), m);
                due("KIND of " + cls + " " + m, x.word(9, 2), Bridge.kindOf(cls, m, 2));
                due("MARKS of " + cls + " " + m, x.word(9, 3), 0);
            }
        }
        Bridge x = new Bridge();
        x.declareAs(0, 0, 9, 7, 5);
        due("the KIND that it is CAST to, not the MEMBER's", x.word(0, 2), 7);
        due("MARKS", x.word(0, 3), 5);
    }

    private static void wordCounts() {
        EDGES.sentence("Promise 12: word", "4 how often it was called, 5 how often it THREW.");
        Bridge x = Scene.filled();
        counts(x, Scene.ADD, 1, 0);
        counts(x, Scene.DIVIDE, 1, 1);
        counts(x, Scene.KEPT, 0, 0);
        x.call(Scene.KEPT, Scene.EMPTY, 0, 0, Scene.TO);
        counts(x, Scene.KEPT, 1, 1);
        x.call(Scene.KEPT, Scene.SHELF, 0, 0, Scene.TO);
        x.call(Scene.KEPT, Scene.CELL, 0, 0, 10);
        counts(x, Scene.KEPT, 1, 1);
        x.call(Scene.KEPT, Scene.CELL, 0, 0, Scene.TO);
        counts(x, Scene.KEPT, 2, 1);
        x.number(Scene.NUMBER, 1, 0);
        x.call(Scene.AT, Scene.SHELF, Scene.NUMBER, 0, Scene.TO);
        counts(x, Scene.AT, 1, 1);
        x.row(Scene.KEPT, 1, Scene.CELL, 0, 0, Scene.TO);
        counts(x, Scene.KEPT, 3, 1);
        x.row(Scene.KEPT, 1, Scene.EMPTY, 0, 0, Scene.TO);
        counts(x, Scene.KEPT, 4, 2);
        x.row(Scene.KEPT, 1, Scene.SHELF, 0, 0, Scene.TO);
        counts(x, Scene.KEPT, 4, 2);
        Bridge y = new Bridge();
        y.declareOwn(0, 0, 0, 0);
        for (int i = 0; i < 500; i++) {
            y.call(0, 0, 0, 0, 0);
        }
        counts(y, 0, 500, 500);
    }

    private static void counts(Bridge x, int word, int called, int threw) {
        due("called", x.word(word, 4), called);
        due("THREW", x.word(word, 5), threw);
    }

    private static void wordRefused() {
        EDGES.sentence("Promise 12: word", "-1 (also: not DECLARED); -2.");
        int[] noWhats = {-1, 6, LEAST, MOST};
        for (int word : NO_WORDS) {
            EDGES.refusedAlsoAtFirst("WORD " + word, x -> x.word(word, 0), -1);
            EDGES.refusedAlsoAtFirst("WORD " + word + " ahead of what", x -> x.word(word, 6), -1);
        }
        EDGES.refusedAlsoAtFirst("not DECLARED", x -> x.word(Scene.UNDECLARED, 5), -1);
        for (int what : noWhats) {
            EDGES.refused("what " + what, x -> x.word(Scene.ADD, what), -2);
            EDGES.refusedAlsoAtFirst("not DECLARED ahead of what " + what, x -> x.word(Scene.UNDECLARED, what), -1);
        }
    }
}
