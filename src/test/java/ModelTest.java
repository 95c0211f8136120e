import java.util.Random;

/**
 * Runs of calls by a fixed seed, each answered both by the class and by a model
 * whose host is the real one: Java's own classes, casts, rows and exceptions.
 */
public final class ModelTest {
    private static final int RUNS = 6000;
    private static final int MOST_CALLS = 512;
    private static final int MOST_IN_STEP = 4;
    private static final Check CHECK = new Check("model");

    public static void main(String[] args) {
        for (int run = 0; run < RUNS && CHECK.wrong() < 20; run++) {
            new ModelTest(run).go();
        }
        System.out.println("model: calls that came back " + cameBack + ", THREW " + threw);
        for (int kind = 1; kind <= 6; kind++) {
            CHECK.due("some call THREW " + kind, thrown[kind] > 100 ? 1 : 0, 1);
        }
        CHECK.end();
    }

    private static long cameBack;
    private static long threw;
    private static final int[] thrown = new int[7];

    private final int run;
    private final Random random;
    private final JavaBridge x = new JavaBridge();
    private final Model y = new Model();
    private int calls;

    private ModelTest(int run) {
        this.run = run;
        this.random = new Random(run);
    }

    private void go() {
        for (int i = 0; calls + MOST_IN_STEP <= MOST_CALLS && CHECK.wrong() < 20; i++) {
            one(i);
        }
        CHECK.due("run " + run + " makes no more calls than are promised", calls <= MOST_CALLS ? 1 : 0, 1);
    }

    /** Mostly one of 0 to 9, now and then one beside them. */
    private int place() {
        return random.nextInt(40) == 0 ? random.nextInt(14) - 2 : random.nextInt(10);
    }

    private int small() {
        int[] rare = {Integer.MAX_VALUE, Integer.MIN_VALUE, 17, 16, -7, 1 << 30};
        return random.nextInt(12) == 0 ? rare[random.nextInt(rare.length)] : random.nextInt(6) - 1;
    }

    private void one(int i) {
        switch (random.nextInt(i < 40 ? 8 : 20)) {
            case 0:
            case 1:
                number(i);
                break;
            case 2:
            case 3:
            case 4:
            case 5:
                declare(i);
                break;
            case 6:
            case 7:
            case 8:
            case 9:
            case 10:
            case 11:
                call(i);
                break;
            case 12:
            case 13:
                row(i);
                break;
            default:
                look(i);
        }
    }

    /** What one call answered; i is the step that it was made in. */
    private void due(int i, String what, long got, long want) {
        calls++;
        CHECK.due("run " + run + " step " + i + " " + what, got, want);
    }

    private void number(int i) {
        int p = place();
        int kind = random.nextInt(20) == 0 ? random.nextInt(12) - 2 : random.nextInt(8) < 6 ? 1 : 2 + random.nextInt(2);
        long v = random.nextInt(30) == 0 ? random.nextLong() : small();
        due(i, "number " + p + " " + kind + " " + v, x.number(p, kind, v), y.number(p, kind, v));
    }

    private void declare(int i) {
        int w = place();
        int cls = random.nextInt(40) == 0 ? random.nextInt(8) - 2 : random.nextInt(4);
        int m = random.nextInt(cls == 2 ? 5 : cls == 3 ? 7 : 11) - (random.nextInt(60) == 0 ? 2 : 0);
        int a = 0;
        int b = 0;
        int out = random.nextInt(10);
        if (y.members(cls) > m && m >= 0) {
            a = y.member(cls, m, 0);
            b = y.member(cls, m, 1);
            out = random.nextInt(4) == 0 ? out : y.member(cls, m, 2);
        }
        if (random.nextInt(20) == 0) {
            a = random.nextInt(11) - 1;
        }
        if (random.nextInt(20) == 0) {
            b = random.nextInt(11) - 1;
        }
        int marks = random.nextInt(3) == 0 ? random.nextInt(10) - 1 : random.nextInt(2) * (out >= 4 ? 1 : 0);
        due(i, "declare " + w + " " + cls + " " + m + " " + a + " " + b + " " + out + " " + marks,
            x.declare(w, cls, m, a, b, out, marks), y.declare(w, cls, m, a, b, out, marks));
    }

    /** A place that holds what the KIND asks for, if one is found soon. */
    private int placeFor(int kind) {
        int p = place();
        for (int i = 0; i < 12 && random.nextInt(25) != 0; i++) {
            if (Model.isPlace(p) && y.places[p] != null && y.fits(y.places[p], kind)) {
                return p;
            }
            p = place();
        }
        return p;
    }

    private void call(int i) {
        int w = place();
        for (int k = 0; k < 12 && (!Model.isPlace(w) || y.words[w] == null); k++) {
            w = place();
        }
        int[] told = Model.isPlace(w) && y.words[w] != null ? y.words[w] : new int[8];
        int on = placeFor(told[0] == 0 ? 4 : told[0] == 1 ? 5 : 6);
        int a = placeFor(told[2]);
        int b = placeFor(told[3]);
        int to = place();
        int got = x.call(w, on, a, b, to);
        due(i, "call " + w + " " + on + " " + a + " " + b + " " + to, got, y.call(w, on, a, b, to));
        if (got >= 0) {
            cameBack++;
        } else if (got <= -10) {
            threw++;
            thrown[Math.min(6, -10 - got)]++;
        }
        due(i, "latest", x.latest(), y.latest);
        if (Model.isPlace(to)) {
            due(i, "kind behind call", x.kind(to), Model.kindOf(y.places[to]));
            due(i, "value behind call", x.value(to), y.value(to));
        }
    }

    private void row(int i) {
        int w = place();
        int n = random.nextInt(14) - 1;
        int on = placeFor(4 + random.nextInt(3));
        int a = placeFor(1);
        int b = placeFor(4);
        int to = place();
        due(i, "row " + w + " " + n + " " + on + " " + a + " " + b + " " + to,
            x.row(w, n, on, a, b, to), y.row(w, n, on, a, b, to));
    }

    private void look(int i) {
        int p = place();
        int q = place();
        int v = small();
        switch (random.nextInt(11)) {
            case 0:
                int from = random.nextInt(6) == 0 ? -1 : q;
                due(i, "move " + p + " " + from, x.move(p, from), y.move(p, from));
                break;
            case 1:
                due(i, "same " + p + " " + q, x.same(p, q), y.same(p, q));
                break;
            case 2:
                p = placeFor(7);
                due(i, "cell " + p + " " + v, x.cell(p, v), y.cell(p, v));
                break;
            case 3:
                p = placeFor(7);
                due(i, "set " + p + " " + v + " " + q, x.set(p, v, q), y.set(p, v, q));
                break;
            case 4:
                int told = random.nextInt(8) - 1;
                due(i, "word " + p + " " + told, x.word(p, told), y.word(p, told));
                break;
            case 5:
                due(i, "started " + v, x.started(v), y.started(v));
                break;
            case 6:
                due(i, "share", Check.share(x), y.threw == 0 ? -1 : y.called / y.threw);
                break;
            case 7:
                due(i, "value " + p, x.value(p), y.value(p));
                break;
            case 8:
                due(i, "kind " + p, x.kind(p), Model.isPlace(p) ? Model.kindOf(y.places[p]) : -1);
                break;
            case 9:
                lookAtMember(i, random.nextInt(6) - 1, random.nextInt(13) - 1, random.nextInt(5) - 1);
                break;
            default:
                due(i, "latest", x.latest(), y.latest);
        }
    }

    private void lookAtMember(int i, int cls, int m, int what) {
        int count = y.members(cls);
        due(i, "members " + cls, x.members(cls), count);
        long want = m < 0 || m >= count ? -1 : what < 0 || what > 2 ? -2 : y.member(cls, m, what);
        due(i, "member " + cls + " " + m + " " + what, x.member(cls, m, what), want);
    }

    private static class MCell {
        int v;
        Object kept;

        MCell(int v) {
            this.v = v;
        }

        int get() {
            return v;
        }
    }

    private static final class MTwice extends MCell {
        MTwice(int v) {
            super(v);
        }

        @Override
        int get() {
            return v + v;
        }
    }

    private static final class Model {
        /** MEMBERS as texts: KINDS in, in, out. */
        private static final String[] MEMBERS = {
            "001 100 101 101 002 003 801 701 800 008",
            "001 100 101 101 002 003 801 701 800 008 005",
            "140 104 001 001 701",
            "104 105 106 106 107 001 805"};
        private static final String[] CHANGES = {"1278", "1278", "0", "01234"};

        /** Integer, Long, Double, MCell, MCell[], int[], null. */
        final Object[] places = new Object[10];
        /** CLASS, MEMBER, in, in, out, MARKS, called, THREW. */
        final int[][] words = new int[10][];
        final java.util.List<Integer> started = new java.util.ArrayList<>();
        int latest;
        int called;
        int threw;
        int made;

        static boolean isPlace(int p) {
            return p >= 0 && p <= 9;
        }

        static int kindOf(Object o) {
            if (o == null) {
                return 0;
            }
            return o instanceof Integer ? 1 : o instanceof Long ? 2 : o instanceof Double ? 3
                : o instanceof MTwice ? 5 : o instanceof MCell ? 4 : o instanceof MCell[] ? 6 : 7;
        }

        static boolean is(Object o, int kind) {
            int own = kindOf(o);
            return own >= 4 && (kind == 8 || kind == own || (kind == 4 && own == 5));
        }

        boolean fits(Object o, int kind) {
            return kind < 4 ? kind == kindOf(o) && kind != 0 : o == null || is(o, kind);
        }

        int number(int p, int kind, long v) {
            if (!isPlace(p)) {
                return -1;
            }
            if (kind == 1 && v >= Integer.MIN_VALUE && v <= Integer.MAX_VALUE) {
                places[p] = (int) v;
            } else if (kind == 2) {
                places[p] = v;
            } else if (kind == 3) {
                places[p] = (double) v;
            } else {
                return -2;
            }
            return 1;
        }

        int move(int p, int from) {
            if (!isPlace(p) || !(from == -1 || isPlace(from))) {
                return -1;
            }
            places[p] = from == -1 ? null : places[from];
            return kindOf(places[p]);
        }

        long value(int p) {
            Object o = isPlace(p) ? places[p] : null;
            return o instanceof Integer i ? i : o instanceof Long l ? l
                : o instanceof Double d ? Double.doubleToLongBits(d) : Long.MIN_VALUE;
        }

        int same(int p, int q) {
            if (!isPlace(p) || !isPlace(q)) {
                return -1;
            }
            Object a = places[p];
            boolean isNumber = kindOf(a) >= 1 && kindOf(a) <= 3;
            return (isNumber ? a.equals(places[q]) : a == places[q]) ? 1 : 0;
        }

        long cell(int p, int i) {
            if (!isPlace(p)) {
                return Long.MIN_VALUE;
            }
            try {
                return ((int[]) places[p])[i];
            } catch (RuntimeException e) {
                latest = kindOfThrown(e);
                return Long.MIN_VALUE;
            }
        }

        int set(int p, int i, int v) {
            if (!isPlace(p)) {
                return -1;
            }
            try {
                ((int[]) places[p])[i] = v;
                return 1;
            } catch (RuntimeException e) {
                latest = kindOfThrown(e);
                return -10 - latest;
            }
        }

        static int kindOfThrown(RuntimeException e) {
            return e instanceof NullPointerException ? 1 : e instanceof ClassCastException ? 2
                : e instanceof IndexOutOfBoundsException ? 3 : e instanceof ArithmeticException ? 4
                : e instanceof ArrayStoreException ? 5 : e instanceof NegativeArraySizeException ? 6 : 99;
        }

        int members(int cls) {
            return cls < 0 || cls > 3 ? -1 : MEMBERS[cls].split(" ").length;
        }

        int member(int cls, int m, int what) {
            return MEMBERS[cls].split(" ")[m].charAt(what) - '0';
        }

        int declare(int w, int cls, int m, int a, int b, int out, int marks) {
            if (!isPlace(w) || m < 0 || m >= members(cls)) {
                return -1;
            }
            if (a < 0 || a > 8 || b < 0 || b > 8 || out < 0 || out > 8 || (a == 0 && b != 0)
                    || marks < 0 || marks > 7) {
                return -2;
            }
            int comes = member(cls, m, 2);
            boolean fit = a == member(cls, m, 0) && b == member(cls, m, 1)
                && (out == comes || (comes == 8 && out > 3) || (comes == 4 && out == 5));
            boolean isPure = m > 9 || CHANGES[cls].indexOf('0' + m) < 0;
            if (!fit || ((marks & 1) != 0 && out < 4) || ((marks & 2) != 0 && a != 7 && b != 7)
                    || ((marks & 4) != 0 && !isPure)) {
                return -3;
            }
            words[w] = new int[] {cls, m, a, b, out, marks, 0, 0};
            return 1;
        }

        int word(int w, int what) {
            if (!isPlace(w) || words[w] == null) {
                return -1;
            }
            int[] order = {0, 1, 4, 5, 6, 7};
            return what < 0 || what > 5 ? -2 : words[w][order[what]];
        }

        int started(int cls) {
            return cls < 0 || cls > 3 ? -1 : started.indexOf(cls) + 1;
        }

        private void start(int cls) {
            if (cls == 1) {
                start(0);
            }
            if (!started.contains(cls)) {
                started.add(cls);
            }
        }

        int call(int w, int on, int a, int b, int to) {
            if (!isPlace(w) || words[w] == null) {
                return -1;
            }
            int[] t = words[w];
            if ((t[0] != 3 && !isPlace(on)) || (t[2] != 0 && !isPlace(a)) || (t[3] != 0 && !isPlace(b))
                    || !isPlace(to)) {
                return -1;
            }
            if ((t[0] != 3 && !fits(places[on], 4 + t[0])) || (t[2] != 0 && !fits(places[a], t[2]))
                    || (t[3] != 0 && !fits(places[b], t[3]))) {
                return -3;
            }
            start(t[0]);
            called++;
            t[6]++;
            try {
                Object came = host(t, t[0] == 3 ? null : places[on], t[2] == 0 ? null : places[a],
                    t[3] == 0 ? null : places[b]);
                if (t[4] == 0) {
                    return 0;
                }
                if (came == null && (t[5] & 1) == 0) {
                    throw new NullPointerException();
                }
                if (came != null && t[4] > 3 && !is(came, t[4])) {
                    throw new ClassCastException();
                }
                places[to] = came;
                return kindOf(came);
            } catch (RuntimeException e) {
                latest = kindOfThrown(e);
                threw++;
                t[7]++;
                return -10 - latest;
            }
        }

        int row(int w, int n, int on, int a, int b, int to) {
            if (!isPlace(w)) {
                return -1;
            }
            if (n < 1 || n > 10) {
                return -2;
            }
            int back = 0;
            for (int i = w; i < Math.min(10, w + n); i++) {
                back += call(i, on, a, b, to) >= 0 ? 1 : 0;
            }
            return back;
        }

        private Object host(int[] t, Object on, Object a, Object b) {
            Object in = (t[5] & 2) != 0 && a instanceof int[] r ? r.clone() : a;
            return t[0] == 3 ? maker(t[1], in) : t[0] == 2 ? shelf((MCell[]) on, t[1], in, b)
                : cell((MCell) on, t[1], in);
        }

        private Object cell(MCell c, int m, Object a) {
            switch (m) {
                case 0:
                    return c.get();
                case 1:
                    c.v = (Integer) a;
                    return null;
                case 2:
                    c.v += (Integer) a;
                    return c.get();
                case 3:
                    return c.get() / (Integer) a;
                case 4:
                    return c.get() * 1000000007L;
                case 5:
                    return c.get() / 2.0;
                case 6:
                    // Java would not look into an object here; a call on NOTHING THROWS.
                    return c.getClass() != null && a == c ? 1 : 0;
                case 7:
                    ((int[]) a)[c.v] = c.get();
                    return c.v;
                case 8:
                    c.kept = a;
                    return null;
                case 9:
                    return c.kept;
                default:
                    return (MTwice) java.util.Objects.requireNonNull(c);
            }
        }

        private Object shelf(MCell[] s, int m, Object a, Object b) {
            int sum = 0;
            switch (m) {
                case 0:
                    s[(Integer) a] = (MCell) b;
                    return null;
                case 1:
                    return s[(Integer) a];
                case 2:
                    return s.length;
                case 3:
                    for (MCell c : s) {
                        sum += c.get();
                    }
                    return sum;
                default:
                    int length = s.length;
                    int wanted = ((int[]) a)[0];
                    for (int i = 0; i < length; i++) {
                        if (s[i].v == wanted) {
                            return i;
                        }
                    }
                    return -1;
            }
        }

        private Object maker(int m, Object a) {
            Object o;
            switch (m) {
                case 0:
                    o = new MCell((Integer) a);
                    break;
                case 1:
                    o = new MTwice((Integer) a);
                    break;
                case 2:
                    o = new MCell[Math.min(16, (Integer) a)];
                    break;
                case 3:
                    o = new MTwice[Math.min(16, (Integer) a)];
                    break;
                case 4:
                    o = new int[Math.min(16, (Integer) a)];
                    break;
                case 5:
                    return made;
                default:
                    return (MTwice) a;
            }
            made++;
            return o;
        }
    }
}
