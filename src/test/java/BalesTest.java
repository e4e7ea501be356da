import java.util.Arrays;

/** Promises 22 to 26: bale, clearBales, plan, planAt, tries. */
public final class BalesTest {
    private static final Due due = new Due();

    public static void main(String[] args) {
        bales();
        clearing();
        planOfPairs();
        planOfTriples();
        planOfSingles();
        planRefused();
        planGoes();
        planOfNoBales();
        triesOfSearches();
        theDearestSearch();
        due.end();
    }

    private static void planIs(String what, YarnMill x, int n, int... want) {
        due.is(what + ": laydowns", x.many(3), want.length / n);
        for (int i = 0; i < want.length; i++) {
            due.is(what + ": bale " + i, x.planAt(i / n, i % n), want[i]);
        }
        due.is(what + ": behind it", x.planAt(want.length / n, 0), YarnMill.NONE);
        due.is(what + ": behind a laydown", x.planAt(0, n), YarnMill.NONE);
    }

    private static void bales() {
        YarnMill x = new YarnMill();
        due.is("bale(0)", x.bale(0), 0);
        due.is("bale(10000)", x.bale(10000), 1);
        long ahead = x.digest();
        for (int v : new int[] {-1, 10001, Due.MAX, Due.MIN}) {
            due.refused("bale(" + v + ")", x.bale(v), YarnMill.BAD, x, ahead);
        }
        for (int k = 2; k < 12; k++) {
            due.is("bale " + k, x.bale(k), k);
        }
        x.plan(1, 0, 10000);
        ahead = x.digest();
        due.refused("a thirteenth", x.bale(1), YarnMill.FULL, x, ahead);
        due.refused("BAD is ahead of FULL", x.bale(-1), YarnMill.BAD, x, ahead);
        due.is("a refused bale leaves the plan", x.planAt(11, 0), 11);
    }

    private static void clearing() {
        YarnMill x = Mills.withBales(5, 5, 5);
        x.plan(3, 5, 5);
        due.is("tries()", x.tries(), 2);
        due.is("clearBales()", x.clearBales(), 3);
        due.is("many(2)", x.many(2), 0);
        due.is("the plan went", x.planAt(0, 0), YarnMill.NONE);
        due.is("many(3)", x.many(3), 0);
        due.is("tries() stay", x.tries(), 2);
        due.is("clearBales()", x.clearBales(), 0);
        due.is("bale(1)", x.bale(1), 0);
    }

    private static void planOfPairs() {
        YarnMill x = Mills.withBales(10, 30, 20, 22, 18, 20);
        due.is("plan(2, 20, 20)", x.plan(2, 20, 20), 3);
        planIs("pairs", x, 2, 0, 1, 2, 5, 3, 4);
        due.is("tries()", x.tries(), 5);
        int[][] none = {{-1, 0}, {0, -1}, {3, 0}, {0, 2}, {Due.MAX, 0}, {0, Due.MAX}, {Due.MIN, Due.MIN}};
        for (int[] n : none) {
            due.is("planAt" + Arrays.toString(n), x.planAt(n[0], n[1]), YarnMill.NONE);
        }
        due.is("plan(6, 20, 20)", x.plan(6, 20, 20), 1);
        planIs("one of six", x, 6, 0, 1, 2, 3, 4, 5);
        YarnMill back = Mills.withBales(10, 20, 20, 10);
        due.is("plan(2, 15, 15)", back.plan(2, 15, 15), 2);
        planIs("the first of two", back, 2, 0, 1, 2, 3);
    }

    private static void planOfTriples() {
        YarnMill x = Mills.withBales(1, 2, 3, 4, 5, 6, 7, 8, 9);
        due.is("plan(3, 5, 5)", x.plan(3, 5, 5), 3);
        planIs("triples", x, 3, 0, 4, 8, 1, 5, 6, 2, 3, 7);
        due.is("plan(3, 4, 6)", x.plan(3, 4, 6), 3);
        YarnMill six = Mills.withBales(10, 30, 20, 22, 18, 20);
        due.is("plan(3, 20, 20)", six.plan(3, 20, 20), 2);
        planIs("two triples", six, 3, 0, 1, 2, 3, 4, 5);
    }

    private static void planOfSingles() {
        YarnMill x = Mills.withBales(7, 5, 9);
        due.is("plan(1, 5, 9)", x.plan(1, 5, 9), 3);
        planIs("singles", x, 1, 0, 1, 2);
        due.is("no tries", x.tries(), 0);
        due.is("plan(1, 6, 9)", x.plan(1, 6, 9), YarnMill.NONE);
        due.is("plan(1, 5, 8)", x.plan(1, 5, 8), YarnMill.NONE);
        due.is("no tries", x.tries(), 0);
        YarnMill most = Mills.withBales(10000, 10000, 10000, 10000, 10000, 10000, 10000, 10000, 10000, 10000, 10000, 10000);
        due.is("plan(6, 10000, 10000)", most.plan(6, 10000, 10000), 2);
        due.is("plan(6, 0, 9999)", most.plan(6, 0, 9999), YarnMill.NONE);
    }

    private static void planRefused() {
        YarnMill x = Mills.withBales(5, 5, 5, 5);
        due.is("plan(2, 5, 5)", x.plan(2, 5, 5), 2);
        long ahead = x.digest();
        int[][] bad = {{0, 0, 1}, {7, 0, 1}, {-1, 0, 1}, {2, -1, 1}, {2, 0, 10001}, {2, 6, 5}, {2, 10001, 10001}, {3, 6, 5},
            {Due.MAX, 0, 1}, {Due.MIN, 0, 1}, {2, Due.MIN, 1}, {2, 0, Due.MAX}};
        for (int[] b : bad) {
            due.refused("plan" + Arrays.toString(b), x.plan(b[0], b[1], b[2]), YarnMill.BAD, x, ahead);
        }
        due.is("BAD leaves the plan", x.planAt(1, 1), 3);
        due.is("BAD leaves the tries", x.tries(), 2);
        due.is("no multiple", x.plan(3, 5, 5), YarnMill.NO);
        due.is("more than there are", x.plan(5, 5, 5), YarnMill.NO);
        due.is("NO leaves the tries", x.tries(), 2);
        due.is("NO takes the plan", x.planAt(0, 0), YarnMill.NONE);
        due.is("many(3)", x.many(3), 0);
    }

    private static void planGoes() {
        YarnMill x = Mills.withBales(5, 5);
        x.plan(2, 5, 5);
        due.is("plan(2, 6, 7)", x.plan(2, 6, 7), YarnMill.NONE);
        due.is("NONE takes the plan", x.planAt(0, 0), YarnMill.NONE);
        due.is("many(3)", x.many(3), 0);
        x.plan(2, 5, 5);
        due.is("a bad bale", x.bale(-1), YarnMill.BAD);
        due.is("leaves the plan", x.planAt(0, 1), 1);
        x.bale(5);
        due.is("a bale takes it", x.planAt(0, 0), YarnMill.NONE);
        due.is("many(3)", x.many(3), 0);
    }

    private static void planOfNoBales() {
        YarnMill x = Mills.withBales(1, 1);
        x.plan(2, 1, 1);
        x.clearBales();
        due.is("plan(3, 0, 0)", x.plan(3, 0, 0), 0);
        due.is("many(3)", x.many(3), 0);
        due.is("planAt(0, 0)", x.planAt(0, 0), YarnMill.NONE);
        due.is("tries()", x.tries(), 0);
    }

    private static void triesOfSearches() {
        due.is("before any plan", new YarnMill().tries(), 0);
        YarnMill x = Mills.withBales(10, 30, 20, 22, 18, 20);
        due.is("plan(2, 25, 30)", x.plan(2, 25, 30), YarnMill.NONE);
        due.is("five, none of them held", x.tries(), 5);
        due.is("plan(3, 25, 25)", x.plan(3, 25, 25), YarnMill.NONE);
        due.is("five seconds, ten thirds", x.tries(), 15);
        YarnMill back = Mills.withBales(1, 2, 3, 3, 2, 1);
        due.is("plan(2, 2, 2)", back.plan(2, 2, 2), 3);
        planIs("0 2, 1 4, 3 5", back, 2, 0, 2, 1, 4, 3, 5);
        due.is("two, two (1 3, 1 4), one", back.tries(), 2 + 2 + 1);
        YarnMill undone = Mills.withBales(10, 18, 20, 12);
        due.is("plan(2, 14, 15)", undone.plan(2, 14, 15), 2);
        planIs("0 1 held, but not 2 3", undone, 2, 0, 2, 1, 3);
        due.is("0 1, 2 3, 0 2, 1 3", undone.tries(), 4);
    }

    /** Every search of 12 BALES ends ahead of 100000 TRIES, so SPENT is never due. */
    private static void theDearestSearch() {
        int[] numbers = new int[12];
        Arrays.fill(numbers, 5000);
        numbers[11] = 10000;
        YarnMill x = Mills.withBales(numbers);
        for (int n = 1; n <= 6; n++) {
            if (12 % n == 0) {
                due.is("plan(" + n + ", 5000, 5000)", x.plan(n, 5000, 5000), YarnMill.NONE);
                due.holds("tries() of " + n, x.tries() <= 71346);
            }
        }
    }
}
