import java.math.BigInteger;

/** ROWS that change, at their edges, promises 9 to 16: a test for each sentence that names one. */
public final class RowChangeEdgesTest {
    private static final Due due = new Due();

    public static void main(String[] args) {
        rowsHaveNoCellsAtFirst();
        theLeastAndGreatestMass();
        fourHundredCells();
        aFullRowLeavesTheOthers();
        drawnCellsComeBehind();
        drawsUpToFourHundred();
        drawsWithoutMoreOrLess();
        drawsFromZeroToTwiceTheMean();
        drawsWrapAround();
        emptyOfNoneAndAll();
        atTheFirstAndTheLast();
        joinOfNone();
        joinUpToAMillion();
        joinBeyondInTheFirstAndTheLast();
        joinLeavesTheOther();
        joinOfUnlikeMany();
        joinOfFullOnes();
        stretchOfNone();
        stretchShares();
        stretchUpToFourHundred();
        stretchAboveFourHundred();
        gatherOfNone();
        gatherTheLastOnes();
        gatherUpToAMillion();
        gatherBeyondInTheFirstAndTheLast();
        gatherOfAFullOne();
        faultOfNone();
        faultOfWholePeriodsAlone();
        faultOfAnOddPeriod();
        faultOfNothingAndAll();
        faultIsCut();
        faultUpToAMillion();
        faultBeyondInTheFirstAndTheLast();
        faultOfAFullOne();
        due.end();
    }

    private static void rowIs(String what, YarnMill x, int row, String want) {
        due.same(what, Mills.row(x, row), want);
    }

    /** A refusal that leaves every CELL of a ROW. */
    private static void refused(String what, long got, long want, YarnMill x, int row, String cells) {
        due.is(what, got, want);
        rowIs(what + " leaves the row", x, row, cells);
    }

    private static void rowsHaveNoCellsAtFirst() {
        YarnMill x = new YarnMill();
        for (int row = 0; row < 8; row++) {
            due.is("about(" + row + ", 0)", x.about(row, 0), 0);
            due.is("at(" + row + ", 0)", x.at(row, 0), YarnMill.NONE);
            due.is("its first cell", x.cell(row, row), 1);
            due.is("at(" + row + ", 0)", x.at(row, 0), row);
        }
    }

    private static void theLeastAndGreatestMass() {
        YarnMill x = Mills.withRow();
        due.is("cell(0, 0)", x.cell(0, 0), 1);
        due.is("cell(0, 1000000)", x.cell(0, 1000000), 2);
        refused("cell(0, -1)", x.cell(0, -1), YarnMill.BAD, x, 0, "0 1000000");
        refused("cell(0, 1000001)", x.cell(0, 1000001), YarnMill.BAD, x, 0, "0 1000000");
    }

    private static void fourHundredCells() {
        YarnMill x = Mills.withAlike(398, 5);
        due.is("the 399th", x.cell(0, 6), 399);
        due.is("the 400th", x.cell(0, 7), 400);
        due.is("the 401st", x.cell(0, 8), YarnMill.FULL);
        due.is("about(0, 0)", x.about(0, 0), 400);
        due.is("about(0, 1)", x.about(0, 1), 398 * 5 + 6 + 7);
        due.is("the last one", x.at(0, 399), 7);
        due.is("behind it", x.at(0, 400), YarnMill.NONE);
    }

    private static void aFullRowLeavesTheOthers() {
        YarnMill x = Mills.withAlike(400, 5);
        for (int row = 1; row < 8; row++) {
            due.is("cell(" + row + ", 9)", x.cell(row, 9), 1);
            due.is("draw(" + row + ", 100, 9, 0, 0)", x.draw(row, 100, 9, 0, 0), 101);
        }
        due.is("cell(0, 9)", x.cell(0, 9), YarnMill.FULL);
        due.is("about(0, 1)", x.about(0, 1), 2000);
    }

    private static void drawnCellsComeBehind() {
        YarnMill x = Mills.withRow(1, 2);
        due.is("draw(0, 1, 9, 0, 0)", x.draw(0, 1, 9, 0, 0), 3);
        due.is("draw(0, 2, 8, 0, 0)", x.draw(0, 2, 8, 0, 0), 5);
        rowIs("one and two behind two", x, 0, "1 2 9 8 8");
    }

    private static void drawsUpToFourHundred() {
        YarnMill x = Mills.withAlike(300, 5);
        due.is("300 and 100", x.draw(0, 100, 6, 0, 0), 400);
        due.is("400 and 1", x.draw(0, 1, 6, 0, 0), YarnMill.FULL);
        due.is("the last one", x.at(0, 399), 6);
        YarnMill y = Mills.withAlike(301, 5);
        due.is("301 and 100", y.draw(0, 100, 6, 0, 0), YarnMill.FULL);
        due.is("none of them came", y.about(0, 0), 301);
        due.is("none of them came", y.at(0, 301), YarnMill.NONE);
        due.is("301 and 99", y.draw(0, 99, 6, 0, 0), 400);
        YarnMill z = Mills.withAlike(399, 5);
        due.is("399 and 2", z.draw(0, 2, 6, 0, 0), YarnMill.FULL);
        due.is("399 and 1", z.draw(0, 1, 6, 0, 0), 400);
    }

    private static void drawsWithoutMoreOrLess() {
        YarnMill x = new YarnMill();
        x.draw(0, 4, 10000, 0, 77);
        x.draw(0, 3, 0, 0, 77);
        rowIs("w 0", x, 0, "10000 10000 10000 10000 0 0 0");
    }

    /** By w as great as m a mass is never below 0, and 2 m at most: both are met among 100 draws of 0 .. 2. */
    private static void drawsFromZeroToTwiceTheMean() {
        YarnMill x = new YarnMill();
        x.draw(0, 100, 1, 1, 5);
        boolean[] met = new boolean[3];
        for (int i = 0; i < 100; i++) {
            int mass = x.at(0, i);
            due.holds("a mass of 0 .. 2, not " + mass, mass >= 0 && mass <= 2);
            if (mass >= 0 && mass <= 2) {
                met[mass] = true;
            }
        }
        due.holds("0, 1 and 2 were met", met[0] && met[1] && met[2]);
    }

    private static void drawsWrapAround() {
        for (int seed : new int[] {0, 1, 65535, 65536, 1 << 30, Due.MAX - 1, Due.MAX}) {
            YarnMill x = new YarnMill();
            due.is("draw", x.draw(0, 60, 9000, 9000, seed), 60);
            BigInteger s = BigInteger.valueOf(seed);
            for (int i = 0; i < 60; i++) {
                s = s.multiply(BigInteger.valueOf(1103515245)).add(BigInteger.valueOf(12345)).mod(BigInteger.TWO.pow(31));
                due.is("seed " + seed + ", cell " + i, x.at(0, i), s.intValueExact() / 65536 % 18001);
            }
        }
    }

    private static void emptyOfNoneAndAll() {
        YarnMill x = Mills.withAlike(400, 5);
        due.is("of none", x.empty(1), 0);
        due.is("of 400", x.empty(0), 400);
        due.is("twice", x.empty(0), 0);
        due.is("about(0, 0)", x.about(0, 0), 0);
        due.is("about(0, 1)", x.about(0, 1), 0);
        due.is("at(0, 0)", x.at(0, 0), YarnMill.NONE);
        due.is("cells come again", x.draw(0, 100, 7, 0, 0), 100);
        due.is("cells come again", x.cell(0, 8), 101);
        due.is("at(0, 0)", x.at(0, 0), 7);
        due.is("behind the last", x.at(0, 101), YarnMill.NONE);
    }

    private static void atTheFirstAndTheLast() {
        YarnMill x = Mills.withRow(4, 5, 6);
        due.is("at(0, 0)", x.at(0, 0), 4);
        due.is("at(0, 2)", x.at(0, 2), 6);
        for (int i : new int[] {3, 399, 400, Due.MAX, -1, Due.MIN}) {
            due.is("at(0, " + i + ")", x.at(0, i), YarnMill.NONE);
        }
        due.is("at(7, 0)", x.at(7, 0), YarnMill.NONE);
        due.is("at(8, 0)", x.at(8, 0), YarnMill.BAD);
        due.is("at(-1, 0)", x.at(-1, 0), YarnMill.BAD);
    }

    private static void joinOfNone() {
        YarnMill x = new YarnMill();
        due.is("join(0, 7)", x.join(0, 7), 0);
        due.is("join(7, 0)", x.join(7, 0), 0);
        due.is("with itself", x.join(7, 7), YarnMill.NO);
    }

    private static void joinUpToAMillion() {
        YarnMill x = Mills.withRow(0, 999999, 1000000, 500000);
        Mills.fill(x, 1, 1000000, 1, 0, 500000);
        due.is("join(0, 1)", x.join(0, 1), 4);
        rowIs("just 1000000", x, 0, "1000000 1000000 1000000 1000000");
    }

    private static void joinBeyondInTheFirstAndTheLast() {
        YarnMill first = Mills.withRow(1000000, 5, 5);
        Mills.fill(first, 1, 1, 5, 5);
        refused("the first", first.join(0, 1), YarnMill.BEYOND, first, 0, "1000000 5 5");
        YarnMill last = Mills.withRow(5, 5, 1);
        Mills.fill(last, 1, 5, 5, 1000000);
        refused("the last", last.join(0, 1), YarnMill.BEYOND, last, 0, "5 5 1");
        rowIs("the other", last, 1, "5 5 1000000");
        YarnMill most = Mills.withRow(1000000);
        Mills.fill(most, 1, 1000000);
        refused("2000000", most.join(0, 1), YarnMill.BEYOND, most, 0, "1000000");
    }

    private static void joinLeavesTheOther() {
        YarnMill x = Mills.withRow(1, 2);
        Mills.fill(x, 7, 30, 40);
        due.is("join(0, 7)", x.join(0, 7), 2);
        rowIs("it", x, 0, "31 42");
        rowIs("the other", x, 7, "30 40");
        x.cell(7, 50);
        due.is("apart again", x.join(0, 7), YarnMill.NO);
        rowIs("it", x, 0, "31 42");
    }

    private static void joinOfUnlikeMany() {
        YarnMill x = Mills.withRow(1, 2);
        Mills.fill(x, 1, 1);
        Mills.fill(x, 2, 1, 2, 3);
        refused("one fewer", x.join(0, 1), YarnMill.NO, x, 0, "1 2");
        refused("one more", x.join(0, 2), YarnMill.NO, x, 0, "1 2");
        refused("none", x.join(0, 3), YarnMill.NO, x, 0, "1 2");
        refused("it has none", x.join(3, 0), YarnMill.NO, x, 3, "");
        refused("the same", x.join(0, 0), YarnMill.NO, x, 0, "1 2");
    }

    private static void joinOfFullOnes() {
        YarnMill x = Mills.withAlike(400, 5);
        Mills.fillAlike(x, 1, 400, 6);
        due.is("join(0, 1)", x.join(0, 1), 400);
        due.is("about(0, 1)", x.about(0, 1), 4400);
        due.is("the last one", x.at(0, 399), 11);
    }

    private static void stretchOfNone() {
        YarnMill x = new YarnMill();
        due.is("stretch(0, 2)", x.stretch(0, 2), 0);
        due.is("stretch(0, 8)", x.stretch(0, 8), 0);
        due.is("about(0, 0)", x.about(0, 0), 0);
    }

    private static void stretchShares() {
        YarnMill x = Mills.withRow(0, 1, 7, 8, 9, 15);
        due.is("stretch(0, 8)", x.stretch(0, 8), 48);
        rowIs("by 8", x, 0, "0 0 0 0 0 0 0 0 1 0 0 0 0 0 0 0 1 1 1 1 1 1 1 0 "
                + "1 1 1 1 1 1 1 1 2 1 1 1 1 1 1 1 2 2 2 2 2 2 2 1");
        YarnMill y = Mills.withRow(1000000, 999999, 1);
        due.is("stretch(0, 2)", y.stretch(0, 2), 6);
        rowIs("by 2", y, 0, "500000 500000 500000 499999 1 0");
        YarnMill z = Mills.withRow(1000000, 2);
        due.is("stretch(0, 3)", z.stretch(0, 3), 6);
        rowIs("by 3", z, 0, "333334 333333 333333 1 1 0");
    }

    private static void stretchUpToFourHundred() {
        for (int d : new int[] {2, 4, 5, 8}) {
            YarnMill x = Mills.withAlike(400 / d, 9);
            due.is("stretch by " + d, x.stretch(0, d), 400);
            due.is("nothing is lost", x.about(0, 1), 400 / d * 9);
            due.is("the last one", x.at(0, 399), 9 / d);
        }
    }

    private static void stretchAboveFourHundred() {
        for (int d = 2; d <= 8; d++) {
            YarnMill x = Mills.withAlike(400 / d + 1, 9);
            due.is("stretch by " + d, x.stretch(0, d), YarnMill.FULL);
            due.is("its cells", x.about(0, 0), 400 / d + 1);
            due.is("its mass", x.about(0, 1), (400 / d + 1) * 9);
            due.is("they are even", x.about(0, 2), 0);
        }
        due.is("133 by 3: 399", Mills.withAlike(133, 9).stretch(0, 3), 399);
        due.is("66 by 6: 396", Mills.withAlike(66, 9).stretch(0, 6), 396);
        due.is("57 by 7: 399", Mills.withAlike(57, 9).stretch(0, 7), 399);
    }

    private static void gatherOfNone() {
        YarnMill x = new YarnMill();
        due.is("gather(0, 2)", x.gather(0, 2), 0);
        due.is("gather(0, 20)", x.gather(0, 20), 0);
        due.is("about(0, 0)", x.about(0, 0), 0);
    }

    private static void gatherTheLastOnes() {
        YarnMill none = Mills.withRow(1, 2, 3, 4, 5, 6);
        due.is("none is left", none.gather(0, 3), 2);
        rowIs("none is left", none, 0, "6 15");
        YarnMill one = Mills.withRow(1, 2, 3, 4, 5, 6, 7);
        due.is("one is left", one.gather(0, 3), 3);
        rowIs("one is left", one, 0, "6 15 7");
        YarnMill two = Mills.withRow(1, 2, 3, 4, 5, 6, 7, 8);
        due.is("two are left", two.gather(0, 3), 3);
        rowIs("two are left", two, 0, "6 15 15");
        YarnMill few = Mills.withRow(1, 2, 3);
        due.is("fewer than g", few.gather(0, 20), 1);
        rowIs("fewer than g", few, 0, "6");
        due.is("a single one", few.gather(0, 2), 1);
        rowIs("a single one", few, 0, "6");
        YarnMill twenty = Mills.withAlike(20, 3);
        twenty.cell(0, 1);
        due.is("20 and one more", twenty.gather(0, 20), 2);
        rowIs("20 and one more", twenty, 0, "60 1");
    }

    private static void gatherUpToAMillion() {
        YarnMill x = Mills.withRow(1000000, 0, 999999, 1, 1000000);
        due.is("gather(0, 2)", x.gather(0, 2), 3);
        rowIs("just 1000000", x, 0, "1000000 1000000 1000000");
    }

    private static void gatherBeyondInTheFirstAndTheLast() {
        YarnMill first = Mills.withRow(1000000, 1, 5, 5);
        refused("the first", first.gather(0, 2), YarnMill.BEYOND, first, 0, "1000000 1 5 5");
        YarnMill last = Mills.withRow(5, 5, 5, 1, 1000000);
        refused("the last ones, fewer than g", last.gather(0, 3), YarnMill.BEYOND, last, 0, "5 5 5 1 1000000");
        YarnMill most = Mills.withAlike(20, 1000000);
        due.is("20000000", most.gather(0, 20), YarnMill.BEYOND);
        due.is("it has 20", most.about(0, 0), 20);
    }

    private static void gatherOfAFullOne() {
        YarnMill x = Mills.withAlike(400, 5);
        due.is("by 3", x.gather(0, 3), 134);
        due.is("the last but one", x.at(0, 132), 15);
        due.is("the last one", x.at(0, 133), 5);
        due.is("behind it", x.at(0, 134), YarnMill.NONE);
        due.is("nothing is lost", x.about(0, 1), 2000);
        due.is("it is full no more", x.cell(0, 1), 135);
    }

    private static void faultOfNone() {
        YarnMill x = new YarnMill();
        due.is("fault(0, 2, 1000)", x.fault(0, 2, 1000), 0);
        due.is("fault(0, 400, 1000)", x.fault(0, 400, 1000), 0);
        due.is("about(0, 0)", x.about(0, 0), 0);
    }

    private static void faultOfWholePeriodsAlone() {
        YarnMill x = Mills.withRow(10, 20, 30, 40, 50);
        refused("one cell too few", x.fault(0, 6, 1000), 0, x, 0, "10 20 30 40 50");
        due.is("one period, one cell more", x.fault(0, 4, 500), 15);
        rowIs("one period, one cell more", x, 0, "5 10 35 50 50");
        due.is("two periods, one cell more", x.fault(0, 2, 1000), 40);
        rowIs("two periods, one cell more", x, 0, "0 15 0 85 50");
        YarnMill whole = Mills.withRow(10, 20, 30, 40);
        due.is("the whole row", whole.fault(0, 4, 1000), 30);
        rowIs("the whole row", whole, 0, "0 0 40 60");
        YarnMill single = Mills.withRow(10);
        refused("a single cell", single.fault(0, 2, 1000), 0, single, 0, "10");
    }

    private static void faultOfAnOddPeriod() {
        YarnMill x = Mills.withRow(10, 20, 30, 40, 50, 60);
        due.is("fault(0, 3, 1000)", x.fault(0, 3, 1000), 50);
        rowIs("half of 3 is 1", x, 0, "0 30 30 0 90 60");
        YarnMill y = Mills.withRow(10, 20, 30, 40, 50);
        due.is("fault(0, 5, 1000)", y.fault(0, 5, 1000), 30);
        rowIs("half of 5 is 2", y, 0, "0 0 40 60 50");
    }

    private static void faultOfNothingAndAll() {
        YarnMill x = Mills.withRow(1000000, 0, 999999, 1);
        refused("0 thousandths", x.fault(0, 2, 0), 0, x, 0, "1000000 0 999999 1");
        due.is("1000 thousandths", x.fault(0, 2, 1000), 1999999);
        rowIs("all was given", x, 0, "0 1000000 0 1000000");
        due.is("nothing is left to give", x.fault(0, 2, 1000), 0);
    }

    private static void faultIsCut() {
        YarnMill x = Mills.withRow(999, 0, 1000, 0, 1999, 0, 2000, 0);
        due.is("1 thousandth", x.fault(0, 2, 1), 4);
        rowIs("1 thousandth", x, 0, "999 0 999 1 1998 1 1998 2");
        YarnMill y = Mills.withRow(1, 0, 2, 0, 1000000, 0);
        due.is("999 thousandths", y.fault(0, 2, 999), 999001);
        rowIs("999 thousandths", y, 0, "1 0 1 1 1000 999000");
    }

    private static void faultUpToAMillion() {
        YarnMill x = Mills.withRow(1000, 999999);
        due.is("just 1000000", x.fault(0, 2, 1), 1);
        rowIs("just 1000000", x, 0, "999 1000000");
        refused("nothing by the cut", x.fault(0, 2, 1), 0, x, 0, "999 1000000");
    }

    private static void faultBeyondInTheFirstAndTheLast() {
        YarnMill first = Mills.withRow(1000, 1000000, 50, 50);
        refused("the first", first.fault(0, 2, 1), YarnMill.BEYOND, first, 0, "1000 1000000 50 50");
        YarnMill last = Mills.withRow(5000, 50, 2000, 999999, 7);
        refused("the last", last.fault(0, 2, 1), YarnMill.BEYOND, last, 0, "5000 50 2000 999999 7");
        YarnMill most = Mills.withRow(1000000, 1000000);
        refused("2000000", most.fault(0, 2, 1000), YarnMill.BEYOND, most, 0, "1000000 1000000");
        YarnMill part = Mills.withRow(50, 50, 1000, 1000000);
        due.is("not of a part of a period", part.fault(0, 3, 1000), 50);
        rowIs("not of a part of a period", part, 0, "0 100 1000 1000000");
    }

    private static void faultOfAFullOne() {
        YarnMill x = Mills.withAlike(400, 5);
        due.is("fault(0, 400, 1000)", x.fault(0, 400, 1000), 1000);
        due.is("the last that gave", x.at(0, 199), 0);
        due.is("the first that got", x.at(0, 200), 10);
        due.is("the last that got", x.at(0, 399), 10);
        YarnMill y = Mills.withAlike(400, 5);
        due.is("fault(0, 399, 1000)", y.fault(0, 399, 1000), 995);
        due.is("the last that got", y.at(0, 397), 10);
        due.is("one that did neither", y.at(0, 398), 5);
        due.is("one behind the period", y.at(0, 399), 5);
        YarnMill heavy = Mills.withRow(Mills.alike(200, 1000000));
        Mills.fillAlike(heavy, 0, 200, 0);
        due.is("the most that is given", heavy.fault(0, 400, 1000), 200000000);
    }
}
