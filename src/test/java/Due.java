/** Compares answers with those that are due, tells each that differs, and ends a test with its exit code. */
final class Due {
    private final String test;
    private int looked = 0;
    private int wrong = 0;

    Due(String test) {
        this.test = test;
    }

    void is(String what, long got, long want) {
        looked++;
        if (got == want) return;
        wrong++;
        System.out.println(test + ": " + what + " answered " + got + ", due is " + want);
    }

    void holds(String what, boolean so) {
        is(what, so ? 1 : 0, 1);
    }

    int wrong() {
        return wrong;
    }

    void end() {
        System.out.println(test + ": " + looked + " answers, " + wrong + " not as due");
        if (wrong != 0 || looked == 0) System.exit(1);
    }
}
