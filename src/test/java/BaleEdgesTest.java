/** BALES and THE PLAN at their edges, promises 22 to 26: a test for each sentence that names one. */
public final class BaleEdgesTest {
    private static final Due due = new Due();
    private static final int[] TWELVE = {5, 5, 5, 5, 5, 5, 5, 5, 5, 5, 5, 5};

    public static void main(String[] args) {
        theLeastAndGreatestNumber();
        twelveBales();
        twelveBalesAgainBehindClear();
        aBaleTakesThePlan();
        aRefusedBaleLeavesThePlan();
        clearOfNone();
        clearTakesThePlan();
        planOfNoBales();
        planOfOneBale();
        sumsFromLowOn();
        sumsUpToHigh();
        lowAsGreatAsHigh();
        sumsOfTheLeastAndGreatest();
        everyLaydownIsHeld();
        manyNoMultiple();
        manyAMultipleOfEach();
        thePlanGoesButByBad();
        aPlanTakesTheOneThatWas();
        theFirstPlanOfSeveral();
        eachNextLaydownBeginsWithTheLeastLeft();
        aLaydownIsTakenBack();
        planAtTheEdges();
        planAtWithoutAPlan();
        triesAheadOfAnyPlan();
        theFirstOneIsNoTry();
        triesOfNone();
        triesWhereTooFewAreLeft();
        triesOfTheLatestThatSearched();
        triesStayWhenBalesGo();
        theDearestSearchesAreNotSpent();
        due.end();
    }

    private static void planIs(String what, YarnMill x, String want) {
        due.same(what, Mills.plan(x), want);
    }

    private static void theLeastAndGreatestNumber() {
        YarnMill x = new YarnMill();
        due.is("bale(0)", x.bale(0), 0);
        due.is("bale(10000)", x.bale(10000), 1);
        due.is("bale(-1)", x.bale(-1), YarnMill.BAD);
        due.is("bale(10001)", x.bale(10001), YarnMill.BAD);
        due.is("many(2)", x.many(2), 2);
        due.is("0 and 10000", x.plan(2, 5000, 5000), 1);
    }

    private static void twelveBales() {
        YarnMill x = new YarnMill();
        for (int b = 0; b < 12; b++) {
            due.is("bale " + b, x.bale(b), b);
        }
        due.is("a thirteenth", x.bale(12), YarnMill.FULL);
        due.is("many(2)", x.many(2), 12);
        due.is("the twelve of them", x.plan(1, 0, 11), 12);
        planIs("the twelve of them", x, "0, 1, 2, 3, 4, 5, 6, 7, 8, 9, 10, 11");
    }

    private static void twelveBalesAgainBehindClear() {
        YarnMill x = Mills.withBales(TWELVE);
        due.is("clearBales()", x.clearBales(), 12);
        for (int b = 0; b < 12; b++) {
            due.is("bale " + b, x.bale(7), b);
        }
        due.is("a thirteenth", x.bale(7), YarnMill.FULL);
        due.is("none has 5 still", x.plan(1, 7, 7), 12);
    }

    private static void aBaleTakesThePlan() {
        YarnMill x = Mills.withBales(5, 5);
        x.plan(1, 5, 5);
        due.is("bale(5)", x.bale(5), 2);
        due.is("many(3)", x.many(3), 0);
        planIs("it went", x, "");
    }

    private static void aRefusedBaleLeavesThePlan() {
        YarnMill x = Mills.withBales(5, 5);
        x.plan(1, 5, 5);
        due.is("bale(-1)", x.bale(-1), YarnMill.BAD);
        due.is("bale(10001)", x.bale(10001), YarnMill.BAD);
        planIs("BAD", x, "0, 1");
        YarnMill full = Mills.withBales(TWELVE);
        full.plan(6, 5, 5);
        due.is("a thirteenth", full.bale(5), YarnMill.FULL);
        planIs("FULL", full, "0 1 2 3 4 5, 6 7 8 9 10 11");
    }

    private static void clearOfNone() {
        YarnMill x = new YarnMill();
        due.is("clearBales()", x.clearBales(), 0);
        x.bale(5);
        due.is("of one", x.clearBales(), 1);
        due.is("twice", x.clearBales(), 0);
        due.is("many(2)", x.many(2), 0);
    }

    private static void clearTakesThePlan() {
        YarnMill x = Mills.withBales(TWELVE);
        x.plan(1, 5, 5);
        due.is("clearBales()", x.clearBales(), 12);
        due.is("many(3)", x.many(3), 0);
        planIs("it went", x, "");
    }

    private static void planOfNoBales() {
        YarnMill x = new YarnMill();
        for (int n = 1; n <= 6; n++) {
            due.is("0 is a multiple of " + n, x.plan(n, 0, 0), 0);
        }
        due.is("many(3)", x.many(3), 0);
        due.is("planAt(0, 0)", x.planAt(0, 0), YarnMill.NONE);
        due.is("tries()", x.tries(), 0);
        due.is("plan(7, 0, 0)", x.plan(7, 0, 0), YarnMill.BAD);
        due.is("plan(0, 0, 0)", x.plan(0, 0, 0), YarnMill.BAD);
    }

    private static void planOfOneBale() {
        YarnMill x = Mills.withBales(5);
        due.is("plan(1, 5, 5)", x.plan(1, 5, 5), 1);
        planIs("one", x, "0");
        for (int n = 2; n <= 6; n++) {
            due.is("1 is no multiple of " + n, x.plan(n, 5, 5), YarnMill.NO);
        }
    }

    /** A sum of 11 in two: LOW 5 asks for 10, LOW 6 for 12. */
    private static void sumsFromLowOn() {
        YarnMill x = Mills.withBales(4, 7);
        due.is("LOW 5", x.plan(2, 5, 10000), 1);
        due.is("LOW 6", x.plan(2, 6, 10000), YarnMill.NONE);
        YarnMill just = Mills.withBales(5, 7);
        due.is("just 12", just.plan(2, 6, 10000), 1);
        due.is("LOW 7", just.plan(2, 7, 10000), YarnMill.NONE);
    }

    /** A sum of 11 in two: HIGH 5 allows 10, HIGH 6 allows 12. */
    private static void sumsUpToHigh() {
        YarnMill x = Mills.withBales(4, 7);
        due.is("HIGH 6", x.plan(2, 0, 6), 1);
        due.is("HIGH 5", x.plan(2, 0, 5), YarnMill.NONE);
        YarnMill just = Mills.withBales(3, 7);
        due.is("just 10", just.plan(2, 0, 5), 1);
        due.is("HIGH 4", just.plan(2, 0, 4), YarnMill.NONE);
    }

    private static void lowAsGreatAsHigh() {
        YarnMill x = Mills.withBales(5, 7);
        due.is("plan(2, 6, 6)", x.plan(2, 6, 6), 1);
        due.is("plan(2, 7, 6)", x.plan(2, 7, 6), YarnMill.BAD);
        planIs("BAD leaves it", x, "0 1");
        due.is("plan(2, 5, 5)", x.plan(2, 5, 5), YarnMill.NONE);
        due.is("plan(2, 7, 7)", x.plan(2, 7, 7), YarnMill.NONE);
    }

    private static void sumsOfTheLeastAndGreatest() {
        YarnMill least = Mills.withBales(0, 0, 0, 0, 0, 0);
        due.is("plan(6, 0, 0)", least.plan(6, 0, 0), 1);
        due.is("plan(6, 1, 10000)", least.plan(6, 1, 10000), YarnMill.NONE);
        YarnMill greatest = Mills.withBales(10000, 10000, 10000, 10000, 10000, 10000);
        due.is("plan(6, 10000, 10000)", greatest.plan(6, 10000, 10000), 1);
        due.is("plan(6, 0, 9999)", greatest.plan(6, 0, 9999), YarnMill.NONE);
    }

    /** The first LAYDOWN alone, and the last one alone, is outside. */
    private static void everyLaydownIsHeld() {
        due.is("the first is too low", Mills.withBales(4, 5, 5).plan(1, 5, 5), YarnMill.NONE);
        due.is("the first is too high", Mills.withBales(6, 5, 5).plan(1, 5, 5), YarnMill.NONE);
        due.is("the last is too low", Mills.withBales(5, 5, 4).plan(1, 5, 5), YarnMill.NONE);
        due.is("the last is too high", Mills.withBales(5, 5, 6).plan(1, 5, 5), YarnMill.NONE);
        due.is("all are held", Mills.withBales(4, 5, 6).plan(1, 4, 6), 3);
    }

    private static void manyNoMultiple() {
        for (int many = 1; many <= 12; many++) {
            YarnMill x = Mills.withBales(java.util.Arrays.copyOf(TWELVE, many));
            for (int n = 1; n <= 6; n++) {
                due.is(many + " bales by " + n, x.plan(n, 5, 5), many % n == 0 ? many / n : YarnMill.NO);
                due.is("many(3)", x.many(3), many % n == 0 ? many / n : 0);
            }
        }
    }

    private static void manyAMultipleOfEach() {
        YarnMill x = Mills.withBales(TWELVE);
        due.is("by 1", x.plan(1, 5, 5), 12);
        planIs("by 1", x, "0, 1, 2, 3, 4, 5, 6, 7, 8, 9, 10, 11");
        due.is("by 2", x.plan(2, 5, 5), 6);
        planIs("by 2", x, "0 1, 2 3, 4 5, 6 7, 8 9, 10 11");
        due.is("by 3", x.plan(3, 5, 5), 4);
        planIs("by 3", x, "0 1 2, 3 4 5, 6 7 8, 9 10 11");
        due.is("by 4", x.plan(4, 5, 5), 3);
        planIs("by 4", x, "0 1 2 3, 4 5 6 7, 8 9 10 11");
        due.is("by 6", x.plan(6, 5, 5), 2);
        planIs("by 6", x, "0 1 2 3 4 5, 6 7 8 9 10 11");
        YarnMill ten = Mills.withBales(java.util.Arrays.copyOf(TWELVE, 10));
        due.is("by 5", ten.plan(5, 5, 5), 2);
        planIs("by 5", ten, "0 1 2 3 4, 5 6 7 8 9");
    }

    private static void thePlanGoesButByBad() {
        YarnMill bad = Mills.withBales(5, 5);
        bad.plan(2, 5, 5);
        due.is("BAD", bad.plan(2, 6, 5), YarnMill.BAD);
        due.is("many(3)", bad.many(3), 1);
        planIs("by BAD it stays", bad, "0 1");
        YarnMill no = Mills.withBales(5, 5);
        no.plan(2, 5, 5);
        due.is("NO", no.plan(3, 5, 5), YarnMill.NO);
        due.is("many(3)", no.many(3), 0);
        planIs("by NO it goes", no, "");
        YarnMill none = Mills.withBales(5, 5);
        none.plan(2, 5, 5);
        due.is("NONE", none.plan(2, 6, 6), YarnMill.NONE);
        due.is("many(3)", none.many(3), 0);
        planIs("by NONE it goes", none, "");
        due.is("the bales stay", none.many(2), 2);
    }

    private static void aPlanTakesTheOneThatWas() {
        YarnMill x = Mills.withBales(5, 5, 5, 5);
        x.plan(1, 5, 5);
        due.is("plan(4, 5, 5)", x.plan(4, 5, 5), 1);
        planIs("one of four", x, "0 1 2 3");
        due.is("planAt(1, 0)", x.planAt(1, 0), YarnMill.NONE);
        due.is("plan(2, 5, 5)", x.plan(2, 5, 5), 2);
        planIs("two of two", x, "0 1, 2 3");
        due.is("planAt(0, 2)", x.planAt(0, 2), YarnMill.NONE);
    }

    private static void theFirstPlanOfSeveral() {
        YarnMill x = Mills.withBales(1, 9, 9, 1);
        due.is("plan(2, 5, 5)", x.plan(2, 5, 5), 2);
        planIs("0 1 is ahead of 0 2", x, "0 1, 2 3");
        YarnMill later = Mills.withBales(1, 1, 9, 9, 5, 5);
        due.is("plan(3, 5, 5)", later.plan(3, 5, 5), 2);
        planIs("0 2 4 is ahead of 0 2 5 and 0 3 4", later, "0 2 4, 1 3 5");
    }

    private static void eachNextLaydownBeginsWithTheLeastLeft() {
        YarnMill x = Mills.withBales(1, 2, 3, 7, 8, 9);
        due.is("plan(2, 5, 5)", x.plan(2, 5, 5), 3);
        planIs("0, then 1, then 2", x, "0 5, 1 4, 2 3");
        YarnMill gap = Mills.withBales(4, 6, 1, 2, 8, 9);
        due.is("plan(2, 5, 5)", gap.plan(2, 5, 5), 3);
        planIs("0 1, then 2", gap, "0 1, 2 5, 3 4");
    }

    /** 0 1 holds, but leaves 9 and 9: it is taken back for 0 2. */
    private static void aLaydownIsTakenBack() {
        YarnMill x = Mills.withBales(4, 4, 9, 9);
        due.is("plan(2, 4, 7)", x.plan(2, 4, 7), 2);
        planIs("0 2, 1 3", x, "0 2, 1 3");
        due.is("0 1, 2 3, 0 2, 1 3", x.tries(), 4);
    }

    private static void planAtTheEdges() {
        YarnMill x = Mills.withBales(5, 5, 5, 5, 5, 5);
        x.plan(3, 5, 5);
        due.is("planAt(0, 0)", x.planAt(0, 0), 0);
        due.is("planAt(0, 2)", x.planAt(0, 2), 2);
        due.is("planAt(1, 0)", x.planAt(1, 0), 3);
        due.is("planAt(1, 2)", x.planAt(1, 2), 5);
        int[][] none = {{0, 3}, {1, 3}, {2, 0}, {-1, 0}, {0, -1}, {1, -1}, {-1, 3}, {2, -3}, {Due.MAX, 0}, {0, Due.MAX},
            {Due.MIN, 0}, {0, Due.MIN}, {Due.MAX, Due.MAX}, {Due.MIN, Due.MIN}};
        for (int[] at : none) {
            due.is("planAt(" + at[0] + ", " + at[1] + ")", x.planAt(at[0], at[1]), YarnMill.NONE);
        }
    }

    private static void planAtWithoutAPlan() {
        due.is("a new object", new YarnMill().planAt(0, 0), YarnMill.NONE);
        due.is("a new object", new YarnMill().planAt(-1, -1), YarnMill.NONE);
        due.is("bales alone", Mills.withBales(5).planAt(0, 0), YarnMill.NONE);
    }

    private static void triesAheadOfAnyPlan() {
        due.is("a new object", new YarnMill().tries(), 0);
        YarnMill x = Mills.withBales(5, 5);
        due.is("BAD", x.plan(0, 5, 5), YarnMill.BAD);
        due.is("NO", x.plan(3, 5, 5), YarnMill.NO);
        due.is("none of them searched", x.tries(), 0);
    }

    private static void theFirstOneIsNoTry() {
        YarnMill x = Mills.withBales(TWELVE);
        x.plan(1, 5, 5);
        due.is("by 1", x.tries(), 0);
        x.plan(2, 5, 5);
        due.is("by 2", x.tries(), 6);
        x.plan(3, 5, 5);
        due.is("by 3", x.tries(), 8);
        x.plan(4, 5, 5);
        due.is("by 4", x.tries(), 9);
        x.plan(6, 5, 5);
        due.is("by 6", x.tries(), 10);
    }

    private static void triesOfNone() {
        YarnMill x = Mills.withBales(5, 5, 5, 5);
        due.is("by 2", x.plan(2, 6, 6), YarnMill.NONE);
        due.is("0 1, 0 2, 0 3", x.tries(), 3);
        due.is("by 1", x.plan(1, 6, 6), YarnMill.NONE);
        due.is("no tries", x.tries(), 0);
        due.is("by 4", x.plan(4, 6, 6), YarnMill.NONE);
        due.is("3 seconds, 3 thirds, 1 fourth", x.tries(), 7);
    }

    /** Three of three: 0 1 2 fails; 0 2 is put too, though none is left behind it. */
    private static void triesWhereTooFewAreLeft() {
        YarnMill x = Mills.withBales(5, 5, 5);
        due.is("plan(3, 6, 6)", x.plan(3, 6, 6), YarnMill.NONE);
        due.is("1, 2 behind it, 2", x.tries(), 3);
    }

    private static void triesOfTheLatestThatSearched() {
        YarnMill x = Mills.withBales(5, 5, 5, 5);
        x.plan(2, 6, 6);
        due.is("BAD", x.plan(2, 7, 6), YarnMill.BAD);
        due.is("BAD did not search", x.tries(), 3);
        due.is("NO", x.plan(3, 6, 6), YarnMill.NO);
        due.is("NO did not search", x.tries(), 3);
        due.is("one that is found", x.plan(2, 5, 5), 2);
        due.is("0 1, 2 3", x.tries(), 2);
    }

    private static void triesStayWhenBalesGo() {
        YarnMill x = Mills.withBales(5, 5, 5, 5);
        x.plan(2, 6, 6);
        x.bale(5);
        due.is("a bale more", x.tries(), 3);
        x.clearBales();
        due.is("bales gone", x.tries(), 3);
    }

    /**
     * All BALES but the last are alike and every LAYDOWN without it holds. With m BALES left a search takes
     * T(m) TRIES: those for one LAYDOWN, and T(m - n) for each of them that has the last BALE not. SPENT is
     * never due: by 3, the dearest, 71346 TRIES would be all that a search could make.
     */
    private static void theDearestSearchesAreNotSpent() {
        YarnMill x = Mills.withBales(5, 5, 5, 5, 5, 5, 5, 5, 5, 5, 5, 6);
        int[][] due12 = {{1, 0}, {2, 12661}, {3, 32871}, {4, 24591}, {6, 8835}};
        for (int[] d : due12) {
            due.is("by " + d[0], x.plan(d[0], 5, 5), YarnMill.NONE);
            due.is("tries by " + d[0], x.tries(), d[1]);
        }
        YarnMill ten = Mills.withBales(5, 5, 5, 5, 5, 5, 5, 5, 5, 6);
        due.is("by 5", ten.plan(5, 5, 5), YarnMill.NONE);
        due.is("tries by 5", ten.tries(), 1305);
    }
}
