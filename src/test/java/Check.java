/** Counts and prints the answers that are not as due. */
final class Check {
    private final String title;
    private int looked;
    private int wrong;

    Check(String title) {
        this.title = title;
    }

    void due(String what, long got, long want) {
        looked++;
        if (got != want) {
            wrong++;
            System.out.println(title + ": " + what + " answered " + got + ", due is " + want);
        }
    }

    void alike(String what, String got, String want) {
        looked++;
        if (!got.equals(want)) {
            wrong++;
            System.out.println(title + ": " + what + "\n  is  " + got + "\n  due " + want);
        }
    }

    /** The answer of share(); -1 where it throws by itself, -2 where the machine does. */
    static long share(JavaBridge x) {
        try {
            return x.share();
        } catch (ArithmeticException e) {
            return "/ by zero".equals(e.getMessage()) ? -2 : -1;
        }
    }

    int wrong() {
        return wrong;
    }

    void end() {
        System.out.println(title + ": " + looked + " answers, " + wrong + " not as due");
        if (wrong != 0) {
            System.exit(1);
        }
    }
}
