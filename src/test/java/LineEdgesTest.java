/** THE LINE at its edges, promises 1 to 8: a test for each sentence that names one. */
public final class LineEdgesTest {
    private static final Due due = new Due();
    private static final long MOST = 1000000000000L;

    public static void main(String[] args) {
        theFirstCountIsOneByOne();
        countsAreToldInLowestTerms();
        lowestTermsOfTheGreatestDivisor();
        periodsAreToldInLowestTerms();
        theLeastAndGreatestFirstCount();
        aCountGoesForTheOneThatWas();
        theLeastMachineChangesNoCount();
        theGreatestNumbersOfAMachine();
        lossIsOfAThousand();
        sixMachines();
        sixMachinesAgainBehindClear();
        threeRollersEach();
        rollersAreNumberedInTheirMachine();
        noRollerWithoutItsMachine();
        clearOfNone();
        clearLeavesWhatIsNoMachine();
        countBehindNoneAndAll();
        tenToTheTwelfthAboveIsNotBeyond();
        tenToTheTwelfthBelowIsNotBeyond();
        theLeastAboveItIsBeyond();
        beyondIsOfLowestTerms();
        beyondOfOneAhead();
        beyondOfOneBehind();
        beyondEnds();
        thePeriodOfTheLastMachine();
        notItsOwnDraft();
        theGreatestPeriods();
        namesFromTheLowerBoundOn();
        namesUpToTheUpperBound();
        namesHoldFractionsExactly();
        namesHoldGreatFractionsExactly();
        namesOfTheLeastAndGreatest();
        theIthName();
        theLastOfAllNames();
        noNames();
        due.end();
    }

    private static void counts(String what, YarnMill x, int k, long above, long below) {
        due.is(what + ": above", x.countAt(k, 0), above);
        due.is(what + ": below", x.countAt(k, 1), below);
    }

    private static void periodIs(String what, YarnMill x, int machine, int roller, long above, long below) {
        due.is(what + ": above", x.period(machine, roller, 0), above);
        due.is(what + ": below", x.period(machine, roller, 1), below);
    }

    private static YarnMill withCount(int above, int below) {
        YarnMill x = new YarnMill();
        x.count(above, below);
        return x;
    }

    /** MACHINES without LOSS that take the DRAFTS given, above and below by turns. */
    private static YarnMill withDrafts(int... drafts) {
        YarnMill x = new YarnMill();
        for (int i = 0; i + 1 < drafts.length; i += 2) {
            x.machine(1, drafts[i], drafts[i + 1], 0);
        }
        return x;
    }

    private static void theFirstCountIsOneByOne() {
        counts("a new object", new YarnMill(), 0, 1, 1);
    }

    private static void countsAreToldInLowestTerms() {
        counts("10000 by 10000", withCount(10000, 10000), 0, 1, 1);
        counts("10000 by 2", withCount(10000, 2), 0, 5000, 1);
        counts("2 by 10000", withCount(2, 10000), 0, 1, 5000);
        counts("10000 by 15", withCount(10000, 15), 0, 2000, 3);
        counts("9999 by 10000", withCount(9999, 10000), 0, 9999, 10000);
        YarnMill x = withCount(3, 8);
        x.machine(16, 60, 20, 500);
        counts("3 by 8, times 16, by 2, by 3", x, 1, 1, 1);
    }

    /** Behind the last MACHINE, ahead of being told, above and below have 14558427000 in common. */
    private static void lowestTermsOfTheGreatestDivisor() {
        YarnMill x = withCount(5900, 999);
        x.machine(1, 13, 1, 0);
        x.machine(1, 19, 1, 0);
        x.machine(10, 11, 7, 0);
        counts("413000 by 2714283", x, 3, 413000, 2714283);
        x.machine(13, 59, 19, 1);
        counts("7 by 11", x, 4, 7, 11);
    }

    private static void periodsAreToldInLowestTerms() {
        YarnMill x = withDrafts(1, 1, 60, 20);
        x.roller(0, 1);
        periodIs("60 by 20", x, 0, 0, 3, 1);
        YarnMill y = withDrafts(1, 1, 20, 20);
        y.roller(0, 1000);
        periodIs("20 by 20", y, 0, 0, 1000, 1);
        YarnMill z = withDrafts(1, 1, 1, 20);
        z.roller(0, 10);
        z.roller(0, 1);
        z.roller(0, 20);
        periodIs("10 by 20", z, 0, 0, 1, 2);
        periodIs("1 by 20", z, 0, 1, 1, 20);
        periodIs("20 by 20", z, 0, 2, 1, 1);
    }

    private static void theLeastAndGreatestFirstCount() {
        YarnMill x = new YarnMill();
        due.is("count(10000, 1)", x.count(10000, 1), 1);
        counts("count(10000, 1)", x, 0, 10000, 1);
        due.is("count(1, 10000)", x.count(1, 10000), 1);
        counts("count(1, 10000)", x, 0, 1, 10000);
        due.is("count(1, 1)", x.count(1, 1), 1);
        counts("count(1, 1)", x, 0, 1, 1);
        due.is("count(10000, 10001)", x.count(10000, 10001), YarnMill.BAD);
        due.is("count(10001, 10000)", x.count(10001, 10000), YarnMill.BAD);
        counts("the one that was", x, 0, 1, 1);
    }

    private static void aCountGoesForTheOneThatWas() {
        YarnMill x = withCount(5, 7);
        x.machine(2, 3, 1, 0);
        counts("5 by 7", x, 1, 10, 21);
        due.is("count(9, 1)", x.count(9, 1), 1);
        counts("9 by 1", x, 1, 6, 1);
        due.is("the machines stay", x.many(0), 1);
    }

    private static void theLeastMachineChangesNoCount() {
        YarnMill x = withCount(7, 9);
        due.is("machine(1, 1, 1, 0)", x.machine(1, 1, 1, 0), 0);
        counts("7 by 9", x, 1, 7, 9);
    }

    private static void theGreatestNumbersOfAMachine() {
        YarnMill x = new YarnMill();
        x.machine(16, 1, 1, 0);
        x.machine(1, 60, 1, 0);
        x.machine(1, 1, 20, 0);
        x.machine(1, 1, 1, 500);
        x.machine(16, 60, 20, 500);
        counts("16 doublings", x, 1, 16, 1);
        counts("a draft of 60", x, 2, 4, 15);
        counts("a draft by 20", x, 3, 16, 3);
        counts("a loss of 500", x, 4, 8, 3);
        counts("all of them", x, 5, 64, 9);
    }

    private static void lossIsOfAThousand() {
        YarnMill x = new YarnMill();
        x.machine(1, 1, 1, 1);
        x.machine(1, 1, 1, 499);
        counts("1 thousandth", x, 1, 999, 1000);
        counts("499 thousandths more", x, 2, 999 * 501, 1000000);
    }

    private static void sixMachines() {
        YarnMill x = new YarnMill();
        for (int k = 0; k < 6; k++) {
            due.is("machine " + k, x.machine(k + 1, 1, 1, 0), k);
        }
        due.is("a seventh", x.machine(7, 1, 1, 0), YarnMill.FULL);
        due.is("an eighth", x.machine(1, 1, 1, 0), YarnMill.FULL);
        due.is("many(0)", x.many(0), 6);
        counts("behind six", x, 6, 720, 1);
        due.is("countAt(7, 0)", x.countAt(7, 0), YarnMill.BAD);
    }

    private static void sixMachinesAgainBehindClear() {
        YarnMill x = Mills.full();
        due.is("clear()", x.clear(), 6);
        for (int k = 0; k < 6; k++) {
            due.is("machine " + k, x.machine(1, 1, 1, 0), k);
            due.is("it has no roller", x.period(k, 0, 0), YarnMill.BAD);
            due.is("its first roller", x.roller(k, 3), 0);
        }
        due.is("a seventh", x.machine(1, 1, 1, 0), YarnMill.FULL);
        due.is("many(1)", x.many(1), 6);
    }

    private static void threeRollersEach() {
        YarnMill x = withDrafts(1, 1, 1, 1, 1, 1, 1, 1, 1, 1, 1, 1);
        for (int k = 0; k < 6; k++) {
            for (int r = 0; r < 3; r++) {
                due.is("roller " + r + " of " + k, x.roller(k, 100 * k + r + 1), r);
            }
            due.is("a fourth of " + k, x.roller(k, 1), YarnMill.FULL);
        }
        due.is("many(1)", x.many(1), 18);
        for (int k = 0; k < 6; k++) {
            for (int r = 0; r < 3; r++) {
                due.is("period of " + r + " of " + k, x.period(k, r, 0), 100 * k + r + 1);
            }
            due.is("period of a fourth", x.period(k, 3, 0), YarnMill.BAD);
        }
    }

    private static void rollersAreNumberedInTheirMachine() {
        YarnMill x = withDrafts(1, 1, 1, 1);
        due.is("of 1", x.roller(1, 5), 0);
        due.is("of 0", x.roller(0, 6), 0);
        due.is("of 1", x.roller(1, 7), 1);
        due.is("of 0", x.roller(0, 8), 1);
    }

    private static void noRollerWithoutItsMachine() {
        YarnMill x = new YarnMill();
        due.is("no machine at all", x.roller(0, 1), YarnMill.BAD);
        x.machine(1, 1, 1, 0);
        due.is("the first one", x.roller(0, 1), 0);
        due.is("the one behind the last", x.roller(1, 1), YarnMill.BAD);
        due.is("period of a machine behind the last", x.period(1, 0, 0), YarnMill.BAD);
        x.clear();
        due.is("one that went", x.roller(0, 1), YarnMill.BAD);
    }

    private static void clearOfNone() {
        YarnMill x = new YarnMill();
        due.is("clear()", x.clear(), 0);
        x.machine(1, 1, 1, 0);
        due.is("of one", x.clear(), 1);
        due.is("twice", x.clear(), 0);
        due.is("countAt(1, 0)", x.countAt(1, 0), YarnMill.BAD);
    }

    private static void clearLeavesWhatIsNoMachine() {
        YarnMill x = Mills.working();
        due.is("clear()", x.clear(), 3);
        counts("the first count", x, 0, 7, 3);
        due.is("rollers", x.many(1), 0);
        due.is("cells", x.many(4), 25);
        due.same("row 0", Mills.row(x, 0), "10 20 30 40 50 60 70 80");
        due.same("the plan", Mills.plan(x), "0 1, 2 3");
        due.is("tries()", x.tries(), 2);
    }

    private static void countBehindNoneAndAll() {
        YarnMill x = withCount(5, 1);
        counts("behind none", x, 0, 5, 1);
        due.is("countAt(1, 0)", x.countAt(1, 0), YarnMill.BAD);
        x.machine(3, 1, 1, 0);
        counts("still behind none", x, 0, 5, 1);
        counts("behind all", x, 1, 15, 1);
        due.is("countAt(2, 0)", x.countAt(2, 0), YarnMill.BAD);
    }

    private static void tenToTheTwelfthAboveIsNotBeyond() {
        YarnMill x = withCount(10000, 1);
        for (int k = 0; k < 4; k++) {
            x.machine(10, 1, 10, 0);
        }
        counts("10^12", x, 4, MOST, 1);
    }

    private static void tenToTheTwelfthBelowIsNotBeyond() {
        YarnMill x = withCount(1, 10000);
        for (int d : new int[] {50, 50, 50, 40, 20}) {
            x.machine(1, d, 1, 0);
        }
        counts("10^12", x, 5, 1, MOST);
    }

    /** The least that MACHINES without LOSS can make: 10^12 + 44225 above, 10^12 + 332 below. */
    private static void theLeastAboveItIsBeyond() {
        YarnMill above = withCount(3469, 1);
        above.machine(7, 1, 3, 0);
        above.machine(13, 1, 13, 0);
        above.machine(15, 1, 19, 0);
        counts("3508772085 above", above, 3, 3469L * 21 * 169 * 285, 1);
        above.machine(15, 1, 19, 0);
        counts("10^12 + 44225 above", above, 4, YarnMill.BEYOND, YarnMill.BEYOND);
        YarnMill below = withCount(1, 9377);
        for (int d : new int[] {18, 37, 46, 59, 59}) {
            below.machine(1, d, 1, 0);
        }
        counts("16949152548 below", below, 4, 1, 9377L * 18 * 37 * 46 * 59);
        counts("10^12 + 332 below", below, 5, YarnMill.BEYOND, YarnMill.BEYOND);
    }

    private static void beyondIsOfLowestTerms() {
        YarnMill same = withCount(9999, 10000);
        for (int k = 0; k < 6; k++) {
            same.machine(16, 16, 1, 0);
        }
        counts("16000 by 16000, six times", same, 6, 9999, 10000);
        YarnMill whole = withCount(10000, 1);
        for (int k = 0; k < 4; k++) {
            whole.machine(16, 8, 5, 0);
        }
        counts("80000 by 8000, four times", whole, 4, 100000000, 1);
        YarnMill shrinks = withCount(10000, 1);
        for (int k = 0; k < 4; k++) {
            shrinks.machine(10, 1, 10, 0);
        }
        shrinks.machine(16, 60, 20, 500);
        counts("10^12 times 8 by 3", shrinks, 5, YarnMill.BEYOND, YarnMill.BEYOND);
        shrinks.clear();
        for (int k = 0; k < 4; k++) {
            shrinks.machine(10, 1, 10, 0);
        }
        shrinks.machine(2, 60, 15, 0);
        counts("10^12 times 30 by 60", shrinks, 5, MOST / 2, 1);
    }

    private static void beyondOfOneAhead() {
        YarnMill x = withCount(10000, 1);
        for (int k = 0; k < 4; k++) {
            x.machine(10, 1, 10, 0);
        }
        x.machine(2, 1, 1, 0);
        x.machine(1, 2, 1, 0);
        counts("10^12", x, 4, MOST, 1);
        counts("2 10^12", x, 5, YarnMill.BEYOND, YarnMill.BEYOND);
        counts("10^12 behind it", x, 6, YarnMill.BEYOND, YarnMill.BEYOND);
    }

    private static void beyondOfOneBehind() {
        YarnMill x = Mills.full();
        counts("behind 3", x, 3, 327680000000L, 1);
        counts("behind 4", x, 4, YarnMill.BEYOND, YarnMill.BEYOND);
        counts("behind none", x, 0, 10000, 1);
    }

    private static void beyondEnds() {
        YarnMill x = Mills.full();
        due.is("countAt(4, 0)", x.countAt(4, 0), YarnMill.BEYOND);
        due.is("a smaller first one", x.count(1, 10000), 1);
        counts("behind 4", x, 4, 1048576, 1);
        due.is("countAt(6, 0)", x.countAt(6, 0), 107374182400L);
    }

    private static void thePeriodOfTheLastMachine() {
        YarnMill x = withDrafts(60, 7, 60, 7);
        x.roller(1, 1000);
        x.roller(1, 1);
        periodIs("1000", x, 1, 0, 1000, 1);
        periodIs("1", x, 1, 1, 1, 1);
    }

    private static void notItsOwnDraft() {
        YarnMill x = withDrafts(2, 1, 3, 1, 5, 1);
        for (int k = 0; k < 3; k++) {
            x.roller(k, 1);
        }
        periodIs("of the first", x, 0, 0, 15, 1);
        periodIs("of the second", x, 1, 0, 5, 1);
        periodIs("of the third", x, 2, 0, 1, 1);
        x.machine(1, 7, 1, 0);
        periodIs("of the first, with one more behind", x, 0, 0, 105, 1);
        periodIs("of the third, with one more behind", x, 2, 0, 7, 1);
    }

    private static void theGreatestPeriods() {
        YarnMill longest = withDrafts(60, 1, 60, 1, 60, 1, 60, 1, 60, 1, 60, 1);
        longest.roller(0, 1000);
        periodIs("1000 60^5", longest, 0, 0, 777600000000L, 1);
        YarnMill shortest = withDrafts(1, 20, 1, 20, 1, 20, 1, 20, 1, 20, 1, 20);
        shortest.roller(0, 1);
        periodIs("20^5 below", shortest, 0, 0, 1, 3200000);
        YarnMill both = withDrafts(59, 19, 59, 19, 59, 19, 59, 19, 59, 19, 59, 19);
        both.roller(0, 997);
        periodIs("997 59^5 by 19^5", both, 0, 0, 997L * 59 * 59 * 59 * 59 * 59, 2476099);
    }

    private static YarnMill withRound(int round) {
        YarnMill x = withDrafts(1, 1);
        x.roller(0, round);
        return x;
    }

    private static void namesFromTheLowerBoundOn() {
        YarnMill x = withRound(900);
        due.is("1000 less 100 thousandths", x.names(1000, 100, 0), 0);
        due.is("1000 less 99 thousandths", x.names(1000, 99, 0), YarnMill.NONE);
        due.is("1001 less 100 thousandths: 900.9", x.names(1001, 100, 0), YarnMill.NONE);
        due.is("900 itself", x.names(900, 0, 0), 0);
        due.is("901", x.names(901, 0, 0), YarnMill.NONE);
    }

    private static void namesUpToTheUpperBound() {
        YarnMill x = withRound(900);
        due.is("800 and 125 thousandths", x.names(800, 125, 0), 0);
        due.is("800 and 124 thousandths", x.names(800, 124, 0), YarnMill.NONE);
        due.is("799 and 125 thousandths: 898.875", x.names(799, 125, 0), YarnMill.NONE);
        due.is("899", x.names(899, 0, 0), YarnMill.NONE);
    }

    private static void namesHoldFractionsExactly() {
        YarnMill x = withDrafts(1, 1, 25, 2);
        x.roller(0, 25);
        periodIs("312.5", x, 0, 0, 625, 2);
        due.is("312", x.names(312, 0, 0), YarnMill.NONE);
        due.is("313", x.names(313, 0, 0), YarnMill.NONE);
        due.is("312 by 1: up to 312.312", x.names(312, 1, 0), YarnMill.NONE);
        due.is("312 by 2: up to 312.624", x.names(312, 2, 0), 0);
        due.is("313 by 1: from 312.687", x.names(313, 1, 0), YarnMill.NONE);
        due.is("313 by 2: from 312.374", x.names(313, 2, 0), 0);
        due.is("250 by 250: up to 312.5 itself", x.names(250, 250, 0), 0);
        due.is("625 by 500: from 312.5 itself", x.names(625, 500, 0), 0);
    }

    /** 997 59^5 by 19^5 is 287863.9..: P times 19^5 is far above an int. */
    private static void namesHoldGreatFractionsExactly() {
        YarnMill x = withDrafts(1, 1, 59, 19, 59, 19, 59, 19, 59, 19, 59, 19);
        x.roller(0, 997);
        due.is("287863", x.names(287863, 0, 0), YarnMill.NONE);
        due.is("287863 by 1", x.names(287863, 1, 0), 0);
        due.is("287864", x.names(287864, 0, 0), YarnMill.NONE);
        due.is("287864 by 1", x.names(287864, 1, 0), 0);
    }

    private static void namesOfTheLeastAndGreatest() {
        due.is("a period of 1", withRound(1).names(1, 0, 0), 0);
        due.is("1000 by 999: from 1 itself", withRound(1).names(1000, 999, 0), 0);
        due.is("1001 by 999: from 1.001", withRound(1).names(1001, 999, 0), YarnMill.NONE);
        due.is("1 by 999: up to 1.999", withRound(2).names(1, 999, 0), YarnMill.NONE);
        YarnMill million = withDrafts(1, 1, 50, 1, 20, 1);
        million.roller(0, 1000);
        due.is("a period of 1000000", million.names(1000000, 0, 0), 0);
        due.is("999999", million.names(999999, 0, 0), YarnMill.NONE);
        YarnMill more = withDrafts(1, 1, 50, 1, 40, 1);
        more.roller(0, 1000);
        more.roller(0, 999);
        due.is("1000000 by 999: up to 1999000", more.names(1000000, 999, 0), 1);
        due.is("1998000 alone", more.names(1000000, 999, 1), YarnMill.NONE);
        YarnMill small = withDrafts(1, 1, 1, 20, 1, 20, 1, 20);
        small.roller(0, 8);
        due.is("a period of 0.001", small.names(1, 999, 0), 0);
        due.is("1 by 998", small.names(1, 998, 0), YarnMill.NONE);
        due.is("2 by 999", small.names(2, 999, 0), YarnMill.NONE);
    }

    private static void theIthName() {
        YarnMill x = withDrafts(1, 1, 1, 1);
        x.roller(1, 50);
        x.roller(0, 49);
        x.roller(0, 50);
        x.roller(1, 50);
        due.is("0: roller 1 of 0", x.names(50, 0, 0), 1);
        due.is("1: roller 0 of 1", x.names(50, 0, 1), 8);
        due.is("2: roller 1 of 1", x.names(50, 0, 2), 9);
        due.is("3", x.names(50, 0, 3), YarnMill.NONE);
        due.is("MAX", x.names(50, 0, Due.MAX), YarnMill.NONE);
        due.is("-1", x.names(50, 0, -1), YarnMill.BAD);
    }

    private static void theLastOfAllNames() {
        YarnMill x = withDrafts(1, 1, 1, 1, 1, 1, 1, 1, 1, 1, 1, 1);
        for (int i = 0; i < 18; i++) {
            x.roller(i / 3, 50);
        }
        for (int i = 0; i < 18; i++) {
            due.is("names(50, 0, " + i + ")", x.names(50, 0, i), i / 3 * 8 + i % 3);
        }
        due.is("names(50, 0, 18)", x.names(50, 0, 18), YarnMill.NONE);
    }

    private static void noNames() {
        due.is("no machines", new YarnMill().names(1, 999, 0), YarnMill.NONE);
        due.is("no rollers", withDrafts(1, 1).names(1, 999, 0), YarnMill.NONE);
        YarnMill x = withRound(50);
        x.clear();
        due.is("machines that went", x.names(50, 0, 0), YarnMill.NONE);
    }
}
