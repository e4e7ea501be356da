/** Holds answers against those that are due, prints each that is not, and ends a test by exit code. */
final class Due {
    static final int MAX = Integer.MAX_VALUE;
    static final int MIN = Integer.MIN_VALUE;

    private int wrong = 0;

    void is(String call, long got, long want) {
        if (got != want) {
            wrong++;
            System.out.println(call + " answered " + got + ", due is " + want);
        }
    }

    void same(String what, String got, String want) {
        if (!got.equals(want)) {
            wrong++;
            System.out.println(what + ": " + got + ", due is " + want);
        }
    }

    /** A refusal: its answer, and that the state's digest is what it was ahead of the call. */
    void refused(String call, long got, long want, YarnMill mill, long digestAhead) {
        is(call, got, want);
        is(call + ", then digest()", mill.digest(), digestAhead);
    }

    void holds(String what, boolean isSo) {
        is(what, isSo ? 1 : 0, 1);
    }

    void end() {
        System.out.println(wrong == 0 ? "all answers are as due" : wrong + " answers are not as due");
        if (wrong != 0) {
            System.exit(1);
        }
    }
}
