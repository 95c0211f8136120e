/** Promises 9 to 12: the MEMBERS, and how WORDS are DECLARED for them. */
public final class WordsTest {
    private static final Check CHECK = new Check("words");

    /** Of each MEMBER, as the document tells them: two KINDS that go in, one that comes. */
    private static final int[][] CELLS = {{0, 0, 1}, {1, 0, 0}, {1, 0, 1}, {1, 0, 1}, {0, 0, 2}, {0, 0, 3},
        {8, 0, 1}, {7, 0, 1}, {8, 0, 0}, {0, 0, 8}};
    private static final int[][] TWICES = {CELLS[0], CELLS[1], CELLS[2], CELLS[3], CELLS[4], CELLS[5], CELLS[6],
        CELLS[7], CELLS[8], CELLS[9], {0, 0, 5}};
    private static final int[][] SHELVES = {{1, 4, 0}, {1, 0, 4}, {0, 0, 1}, {0, 0, 1}, {7, 0, 1}};
    private static final int[][] MAKER = {{1, 0, 4}, {1, 0, 5}, {1, 0, 6}, {1, 0, 6}, {1, 0, 7}, {0, 0, 1},
        {8, 0, 5}};
    private static final int[][][] HOST = {CELLS, TWICES, SHELVES, MAKER};
    private static final String[] CHANGING = {"1 2 7 8", "1 2 7 8", "0", "0 1 2 3 4"};

    public static void main(String[] args) {
        members();
        member();
        declareEveryWay();
        declareRefused();
        declareInPlace();
        word();
        CHECK.end();
    }

    private static void due(String what, long got, long want) {
        CHECK.due(what, got, want);
    }

    private static void members() {
        JavaBridge x = new JavaBridge();
        int[] want = {10, 11, 5, 7};
        for (int c = 0; c < 4; c++) {
            due("9: members of " + c, x.members(c), want[c]);
        }
        due("9: no such class", x.members(-1), -1);
        due("9: no such class", x.members(4), -1);
        due("9: no such class", x.members(Integer.MAX_VALUE), -1);
    }

    private static void member() {
        JavaBridge x = new JavaBridge();
        for (int c = 0; c < 4; c++) {
            for (int m = 0; m < HOST[c].length; m++) {
                for (int what = 0; what < 3; what++) {
                    due("10: member " + c + " " + m + " " + what, x.member(c, m, what), HOST[c][m][what]);
                }
                due("10: what 3", x.member(c, m, 3), -2);
                due("10: what -1", x.member(c, m, -1), -2);
            }
            due("10: no such member", x.member(c, HOST[c].length, 0), -1);
            due("10: no such member, ahead of what", x.member(c, -1, 7), -1);
        }
        due("10: no such class", x.member(-1, 0, 0), -1);
        due("10: no such class", x.member(4, 0, 0), -1);
    }

    /** Every MEMBER with every KIND and every MARK, against the document's words. */
    private static void declareEveryWay() {
        JavaBridge x = new JavaBridge();
        for (int c = 0; c < 4; c++) {
            for (int m = 0; m < HOST[c].length; m++) {
                for (int a = -1; a <= 9; a++) {
                    for (int b = -1; b <= 9; b++) {
                        for (int out = -1; out <= 9; out++) {
                            for (int marks = -1; marks <= 8; marks++) {
                                due("11: declare " + c + " " + m + " " + a + " " + b + " " + out + " " + marks,
                                    x.declare(0, c, m, a, b, out, marks), declared(c, m, a, b, out, marks));
                            }
                        }
                    }
                }
            }
        }
    }

    private static int declared(int c, int m, int a, int b, int out, int marks) {
        int[] kinds = HOST[c][m];
        if (Math.min(a, Math.min(b, out)) < 0 || Math.max(a, Math.max(b, out)) > 8 || marks < 0 || marks > 7) {
            return -2;
        }
        if (a == 0 && b > 0) {
            return -2;
        }
        boolean comes = out == kinds[2] || (kinds[2] == 8 && out >= 4 && out <= 7) || (kinds[2] == 4 && out == 5);
        if (a != kinds[0] || b != kinds[1] || !comes) {
            return -3;
        }
        boolean copies = (marks & 2) != 0;
        boolean may = (marks & 1) != 0;
        boolean pure = (marks & 4) != 0;
        boolean changes = (" " + CHANGING[c] + " ").contains(" " + m + " ");
        return (copies && a != 7) || (may && out < 4) || (pure && changes) ? -3 : 1;
    }

    private static void declareRefused() {
        JavaBridge x = new JavaBridge();
        due("11: word 10", x.declare(10, 0, 0, 0, 0, 1, 0), -1);
        due("11: word -1", x.declare(-1, 0, 0, 0, 0, 1, 0), -1);
        due("11: class 4", x.declare(0, 4, 0, 0, 0, 1, 0), -1);
        due("11: class -1", x.declare(0, -1, 0, 0, 0, 1, 0), -1);
        due("11: member -1", x.declare(0, 0, -1, 0, 0, 1, 0), -1);
        due("11: member 5 of SHELVES", x.declare(0, 2, 5, 0, 0, 1, 0), -1);
        due("11: -1 ahead of -2", x.declare(0, 3, 7, 9, 9, 9, 9), -1);
        due("11: -2 ahead of -3", x.declare(0, 0, 0, 1, 0, 1, 8), -2);
        due("11: nothing is DECLARED by these", x.word(0, 0), -1);
    }

    private static void declareInPlace() {
        JavaBridge x = new JavaBridge();
        x.declare(9, 3, 5, 0, 0, 1, 4);
        x.call(9, 0, 0, 0, 0);
        due("11: refused", x.declare(9, 3, 0, 1, 0, 4, 4), -3);
        due("11: a refusal changes nothing", x.word(9, 1), 5);
        due("11: nor how often", x.word(9, 4), 1);
        due("11: in place", x.declare(9, 3, 6, 8, 0, 5, 1), 1);
        due("11: it is another", x.word(9, 1), 6);
        due("11: it was not called so far", x.word(9, 4), 0);
        due("11: no CLASS has STARTED by it", x.started(1), 0);
    }

    private static void word() {
        JavaBridge x = new JavaBridge();
        x.declare(0, 2, 4, 7, 0, 1, 6);
        int[] want = {2, 4, 1, 6, 0, 0};
        for (int what = 0; what < 6; what++) {
            due("12: what " + what, x.word(0, what), want[what]);
        }
        due("12: what 6", x.word(0, 6), -2);
        due("12: what -1", x.word(0, -1), -2);
        due("12: not DECLARED", x.word(1, 0), -1);
        due("12: not DECLARED, ahead of what", x.word(1, 6), -1);
        due("12: word 10", x.word(10, 0), -1);
        due("12: word -1", x.word(-1, 0), -1);
        due("12: THROWS 1", x.call(0, 0, 0, 0, 0), -11);
        due("12: how often it was called", x.word(0, 4), 1);
        due("12: how often it THREW", x.word(0, 5), 1);
        x.number(0, 1, 1);
        due("12: refused", x.call(0, 0, 0, 0, 0), -3);
        due("12: a refusal is no call", x.word(0, 4), 1);
        x.declare(0, 2, 4, 7, 0, 1, 6);
        due("12: DECLARED anew, it was not called", x.word(0, 4), 0);
        due("12: nor THREW", x.word(0, 5), 0);
        x.declare(1, 0, 9, 0, 0, 6, 1);
        due("12: KIND of what comes as told", x.word(1, 2), 6);
    }
}
