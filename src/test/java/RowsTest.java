import java.util.Arrays;

/** Promises 9 to 21: cell, draw, empty, at, join, stretch, gather, fault, about, wave, greatest, places, cleared. */
public final class RowsTest {
    private static final Due due = new Due();
    private static final int[] NO_ROWS = {-1, 8, Due.MAX, Due.MIN};

    public static void main(String[] args) {
        badRows();
        cells();
        draws();
        drawsByTheLaw();
        emptying();
        joins();
        stretches();
        gathers();
        faults();
        measures();
        waves();
        greatestWaves();
        greatestAreHeldExactly();
        placesOfEachSort();
        placesByTheMean();
        clearing();
        clearingEdges();
        clearingByTheMean();
        fullRows();
        whatWasIsGone();
        due.end();
    }

    private static void rowIs(String what, YarnMill x, int row, int... want) {
        due.is(what + ": cells", x.about(row, 0), want.length);
        for (int i = 0; i < want.length; i++) {
            due.is(what + ": cell " + i, x.at(row, i), want[i]);
        }
        due.is(what + ": behind the last cell", x.at(row, want.length), YarnMill.NONE);
    }

    private static void badRows() {
        YarnMill x = Mills.withRow(1, 2, 3, 4);
        long ahead = x.digest();
        for (int r : NO_ROWS) {
            String row = " of row " + r;
            due.is("cell" + row, x.cell(r, 1), YarnMill.BAD);
            due.is("draw" + row, x.draw(r, 1, 1, 1, 1), YarnMill.BAD);
            due.is("empty" + row, x.empty(r), YarnMill.BAD);
            due.is("at" + row, x.at(r, 0), YarnMill.BAD);
            due.is("join" + row, x.join(r, 0), YarnMill.BAD);
            due.is("join with" + row, x.join(0, r), YarnMill.BAD);
            due.is("join itself" + row, x.join(r, r), YarnMill.BAD);
            due.is("stretch" + row, x.stretch(r, 2), YarnMill.BAD);
            due.is("gather" + row, x.gather(r, 2), YarnMill.BAD);
            due.is("fault" + row, x.fault(r, 2, 2), YarnMill.BAD);
            due.is("about" + row, x.about(r, 0), -1);
            due.is("wave" + row, x.wave(r, 2), -1);
            due.is("greatest" + row, x.greatest(r, 2), YarnMill.BAD);
            due.is("places" + row, x.places(r, 1, 1, 1, 0), YarnMill.BAD);
            due.is("cleared" + row, x.cleared(r, 1, 1, 1), YarnMill.BAD);
        }
        due.is("digest()", x.digest(), ahead);
    }

    private static void cells() {
        YarnMill x = new YarnMill();
        due.is("cell(7, 0)", x.cell(7, 0), 1);
        due.is("cell(7, 1000000)", x.cell(7, 1000000), 2);
        long ahead = x.digest();
        due.refused("cell(7, -1)", x.cell(7, -1), YarnMill.BAD, x, ahead);
        due.refused("cell(7, 1000001)", x.cell(7, 1000001), YarnMill.BAD, x, ahead);
        rowIs("row 7", x, 7, 0, 1000000);
        due.is("at(7, -1)", x.at(7, -1), YarnMill.NONE);
        due.is("at(7, MAX)", x.at(7, Due.MAX), YarnMill.NONE);
        due.is("at(7, MIN)", x.at(7, Due.MIN), YarnMill.NONE);
        for (int n = 3; n <= 400; n++) {
            due.is("cell(7, 5)", x.cell(7, 5), n);
        }
        ahead = x.digest();
        due.refused("the 401st", x.cell(7, 5), YarnMill.FULL, x, ahead);
        due.refused("BAD is ahead of FULL", x.cell(7, -5), YarnMill.BAD, x, ahead);
        due.is("at(7, 399)", x.at(7, 399), 5);
        due.is("at(7, 400)", x.at(7, 400), YarnMill.NONE);
        due.is("cell(6, 5)", x.cell(6, 5), 1);
    }

    private static void draws() {
        YarnMill x = new YarnMill();
        due.is("draw(0, 1, 0, 0, 0)", x.draw(0, 1, 0, 0, 0), 1);
        due.is("draw(0, 100, 10000, 10000, MAX)", x.draw(0, 100, 10000, 10000, Due.MAX), 101);
        long ahead = x.digest();
        int[][] bad = {{0, 1, 1, 1}, {101, 1, 1, 1}, {1, -1, 0, 1}, {1, 10001, 1, 1}, {1, 5, 6, 1}, {1, 5, -1, 1}, {1, 5, 5, -1},
            {Due.MAX, 1, 1, 1}, {Due.MIN, 1, 1, 1}, {1, Due.MAX, Due.MAX, 1}, {1, 5, Due.MAX, 1}, {1, 5, 5, Due.MIN}};
        for (int[] b : bad) {
            due.refused("draw" + Arrays.toString(b), x.draw(0, b[0], b[1], b[2], b[3]), YarnMill.BAD, x, ahead);
        }
        x.draw(0, 100, 5, 5, 5);
        x.draw(0, 100, 5, 5, 5);
        ahead = x.digest();
        due.refused("above 400", x.draw(0, 100, 5, 5, 5), YarnMill.FULL, x, ahead);
        due.refused("BAD is ahead of FULL", x.draw(0, 100, 5, 6, 5), YarnMill.BAD, x, ahead);
        due.is("just 400", x.draw(0, 99, 5, 5, 5), 400);
        due.is("one more", x.draw(0, 1, 5, 5, 5), YarnMill.FULL);
    }

    private static void drawsByTheLaw() {
        int[][] draws = {{100, 10, 7}, {100, 0, 3}, {10000, 10000, Due.MAX}, {1, 1, 0}, {5000, 123, 987654321}};
        for (int[] d : draws) {
            YarnMill x = Mills.withRow(42);
            x.draw(0, 100, d[0], d[1], d[2]);
            long s = d[2];
            due.is("the cell ahead", x.at(0, 0), 42);
            for (int i = 1; i <= 100; i++) {
                s = (s * 1103515245L + 12345L) % (1L << 31);
                due.is("draw " + Arrays.toString(d) + " cell " + i, x.at(0, i), d[0] + s / 65536 % (2 * d[1] + 1) - d[1]);
            }
        }
    }

    private static void emptying() {
        YarnMill x = Mills.withRow(5, 6, 7);
        Mills.fill(x, 1, 8);
        due.is("empty(0)", x.empty(0), 3);
        due.is("empty(0)", x.empty(0), 0);
        rowIs("row 0", x, 0);
        rowIs("row 1 stays", x, 1, 8);
        due.is("cell(0, 9)", x.cell(0, 9), 1);
        rowIs("row 0", x, 0, 9);
    }

    private static void joins() {
        YarnMill x = Mills.withRow(1, 0, 999999);
        Mills.fill(x, 1, 5, 6, 1);
        due.is("join(0, 1)", x.join(0, 1), 3);
        rowIs("joined", x, 0, 6, 6, 1000000);
        rowIs("the other", x, 1, 5, 6, 1);
        long ahead = x.digest();
        due.refused("above 1000000", x.join(0, 1), YarnMill.BEYOND, x, ahead);
        due.refused("the same", x.join(0, 0), YarnMill.NO, x, ahead);
        due.refused("unlike", x.join(0, 2), YarnMill.NO, x, ahead);
        x.cell(0, 1000000);
        ahead = x.digest();
        due.refused("NO is ahead of BEYOND", x.join(1, 0), YarnMill.NO, x, ahead);
        due.is("two empty ones", x.join(4, 5), 0);
        due.is("an empty one with itself", x.join(4, 4), YarnMill.NO);
    }

    private static void stretches() {
        YarnMill x = Mills.withRow(10, 0, 7);
        due.is("stretch(0, 4)", x.stretch(0, 4), 12);
        rowIs("stretched", x, 0, 3, 3, 2, 2, 0, 0, 0, 0, 2, 2, 2, 1);
        long ahead = x.digest();
        for (int d : new int[] {-1, 0, 1, 9, Due.MAX, Due.MIN}) {
            due.refused("stretch(0, " + d + ")", x.stretch(0, d), YarnMill.BAD, x, ahead);
        }
        YarnMill y = Mills.withAlike(50, 17);
        due.is("stretch(0, 8)", y.stretch(0, 8), 400);
        due.is("at(0, 392)", y.at(0, 392), 3);
        due.is("at(0, 393)", y.at(0, 393), 2);
        due.is("about(0, 1)", y.about(0, 1), 850);
        ahead = y.digest();
        due.refused("stretch(0, 2)", y.stretch(0, 2), YarnMill.FULL, y, ahead);
        due.refused("BAD is ahead of FULL", y.stretch(0, 9), YarnMill.BAD, y, ahead);
        YarnMill z = Mills.withAlike(201, 1);
        due.is("402 cells", z.stretch(0, 2), YarnMill.FULL);
        due.is("an empty one", z.stretch(1, 8), 0);
    }

    private static void gathers() {
        YarnMill x = Mills.withRow(1, 2, 3, 4, 5, 6, 7);
        due.is("gather(0, 3)", x.gather(0, 3), 3);
        rowIs("gathered", x, 0, 6, 15, 7);
        due.is("gather(0, 20)", x.gather(0, 20), 1);
        rowIs("gathered", x, 0, 28);
        due.is("an empty one", x.gather(1, 2), 0);
        long ahead = x.digest();
        for (int g : new int[] {-1, 0, 1, 21, Due.MAX, Due.MIN}) {
            due.refused("gather(0, " + g + ")", x.gather(0, g), YarnMill.BAD, x, ahead);
        }
        YarnMill y = Mills.withRow(1, 2, 500000, 500000, 1);
        due.is("just 1000000", y.gather(0, 2), 3);
        rowIs("gathered", y, 0, 3, 1000000, 1);
        ahead = y.digest();
        due.refused("above it", y.gather(0, 2), YarnMill.BEYOND, y, ahead);
        YarnMill z = Mills.withRow(1, 1, 1, 999999, 2);
        ahead = z.digest();
        due.refused("a later one above it", z.gather(0, 3), YarnMill.BEYOND, z, ahead);
        YarnMill all = Mills.withAlike(400, 50000);
        due.is("20 by 20", all.gather(0, 20), 20);
        due.is("at(0, 19)", all.at(0, 19), 1000000);
    }

    private static void faults() {
        YarnMill x = Mills.withRow(101, 55, 7, 9, 1000, 1, 2, 3, 4, 5, 800, 800);
        due.is("fault(0, 5, 200)", x.fault(0, 5, 200), 20 + 11 + 0 + 0);
        rowIs("faulted", x, 0, 81, 44, 27, 20, 1000, 1, 2, 3, 4, 5, 800, 800);
        due.is("fault(0, 12, 1000)", x.fault(0, 12, 1000), 81 + 44 + 27 + 20 + 1000 + 1);
        rowIs("all given", x, 0, 0, 0, 0, 0, 0, 0, 2 + 81, 3 + 44, 4 + 27, 5 + 20, 1800, 801);
        long ahead = x.digest();
        due.refused("no whole period", x.fault(0, 13, 1000), 0, x, ahead);
        due.refused("size 0", x.fault(0, 2, 0), 0, x, ahead);
        due.refused("fault(0, 400, 9)", x.fault(0, 400, 9), 0, x, ahead);
        int[][] bad = {{1, 5}, {0, 5}, {-2, 5}, {401, 5}, {2, -1}, {2, 1001}, {Due.MAX, 5}, {Due.MIN, 5}, {2, Due.MAX}};
        for (int[] b : bad) {
            due.refused("fault" + Arrays.toString(b), x.fault(0, b[0], b[1]), YarnMill.BAD, x, ahead);
        }
        YarnMill y = Mills.withRow(10, 10, 1000000, 999500);
        ahead = y.digest();
        due.refused("above 1000000", y.fault(0, 2, 1), YarnMill.BEYOND, y, ahead);
        YarnMill z = Mills.withRow(10, 10, 1000, 999999);
        due.is("just 1000000", z.fault(0, 2, 1), 1);
        rowIs("just 1000000", z, 0, 10, 10, 999, 1000000);
        YarnMill whole = Mills.withRow(1000000, 0);
        due.is("fault(0, 2, 1000)", whole.fault(0, 2, 1000), 1000000);
        due.is("an empty one", whole.fault(1, 2, 1000), 0);
    }

    private static void measures() {
        YarnMill x = Mills.withRow(1, 2, 6);
        due.is("about(0, 0)", x.about(0, 0), 3);
        due.is("about(0, 1)", x.about(0, 1), 9);
        due.is("about(0, 2)", x.about(0, 2), 3 * 41 - 81);
        for (int what : new int[] {-1, 3, Due.MAX, Due.MIN}) {
            due.is("about(0, " + what + ")", x.about(0, what), -1);
        }
        for (int what = 0; what <= 2; what++) {
            due.is("an empty row", x.about(1, what), 0);
        }
        int[] masses = Mills.alike(400, 1000000);
        Arrays.fill(masses, 0, 200, 0);
        due.is("the greatest unevenness", Mills.withRow(masses).about(0, 2), 40000000000000000L);
        YarnMill heavy = Mills.withAlike(400, 1000000);
        due.is("all masses", heavy.about(0, 1), 400000000);
        due.is("even", heavy.about(0, 2), 0);
    }

    private static void waves() {
        YarnMill x = Mills.withRow(5, 1, 3, 9, 2, 4, 1000);
        due.is("wave(0, 2)", x.wave(0, 2), 2 * (10 * 10 + 14 * 14) - 24 * 24);
        due.is("wave(0, 3)", x.wave(0, 3), 3 * (14 * 14 + 3 * 3 + 7 * 7) - 24 * 24);
        due.is("wave(0, 4)", x.wave(0, 4), 4 * (25 + 1 + 9 + 81) - 18 * 18);
        due.is("wave(0, 7)", x.wave(0, 7), x.about(0, 2));
        due.is("wave(0, 8)", x.wave(0, 8), 0);
        due.is("wave(0, 200)", x.wave(0, 200), 0);
        for (int p : new int[] {-1, 0, 1, 201, Due.MAX, Due.MIN}) {
            due.is("wave(0, " + p + ")", x.wave(0, p), -1);
        }
        int[] masses = new int[400];
        for (int i = 0; i < 400; i++) {
            masses[i] = i % 2 * 1000000;
        }
        due.is("the greatest wave", Mills.withRow(masses).wave(0, 2), 40000000000000000L);
        due.is("an empty one", x.wave(1, 2), 0);
    }

    private static void greatestWaves() {
        YarnMill x = Mills.withRow(9, 0, 0, 9, 0, 0, 9, 0, 0, 9, 0, 0);
        due.is("greatest(0, 6)", x.greatest(0, 6), 3);
        due.is("greatest(0, 200)", x.greatest(0, 200), 3);
        due.is("greatest(0, 2)", x.greatest(0, 2), 2);
        YarnMill later = Mills.withRow(9, 0, 0, 0, 9, 0, 0, 0);
        due.is("half the cells itself", later.greatest(0, 200), 4);
        later.cell(0, 9);
        due.is("cells behind the whole ones", later.greatest(0, 4), 4);
        due.is("but not above half", Mills.withRow(9, 0, 0, 9, 0).greatest(0, 200), 2);
        due.is("of like ones the least", Mills.withAlike(20, 7).greatest(0, 10), 2);
        due.is("of like ones the least", Mills.withAlike(4, 0).greatest(0, 200), 2);
        due.is("three cells", Mills.withRow(1, 2, 3).greatest(0, 200), YarnMill.NONE);
        due.is("four cells", Mills.withRow(1, 2, 3, 4).greatest(0, 200), 2);
        for (int most : new int[] {-1, 0, 1, 201, Due.MAX, Due.MIN}) {
            due.is("greatest(0, " + most + ")", x.greatest(0, most), YarnMill.BAD);
        }
        due.is("an empty one", x.greatest(1, 200), YarnMill.NONE);
    }

    /** Waves by what they are held against whose whole parts are alike, or whose products leave a long. */
    private static void greatestAreHeldExactly() {
        int[] masses = new int[400];
        for (int i = 0; i < 400; i++) {
            masses[i] = i % 199 < 99 ? 1000000 : 0;
        }
        due.is("heavy ones", Mills.withRow(masses).greatest(0, 200), 199);
        due.is("heavy ones, up to 198", Mills.withRow(masses).greatest(0, 198), Waves.greatest(198, masses));
        int[] wrapping = new int[400];
        for (int i = 0; i < 400; i++) {
            wrapping[i] = i % 178 < 89 ? 1000000 : 0;
        }
        due.is("products above a long", Mills.withRow(wrapping).greatest(0, 200), 178);
        due.is("25 by 16, 26 by 18, 59 by 32", Mills.withRow(3, 2, 2, 0, 4, 0, 1, 3).greatest(0, 4), 4);
        int[] light = {1, 1, 0, 1, 0, 0, 1, 1, 0, 1, 1, 0, 1, 0};
        for (int most = 2; most <= 7; most++) {
            due.is("light ones", Mills.withRow(light).greatest(0, most), Waves.greatest(most, light));
        }
    }

    private static void placesOfEachSort() {
        YarnMill x = Mills.withRow(100, 100, 160, 170, 100, 20, 10, 100);
        due.is("thick, 1", x.places(0, 50, 50, 1, 0), 1);
        due.is("thick, 2", x.places(0, 50, 50, 2, 0), 1);
        due.is("thick, 3", x.places(0, 50, 50, 3, 0), 0);
        due.is("thin, 2", x.places(0, 50, 50, 2, 1), 1);
        due.is("thin, 3", x.places(0, 50, 50, 3, 1), 0);
        due.is("thick by 5: all but the thin ones", x.places(0, 5, 50, 1, 0), 2);
        due.is("thick by 5: the last one stands alone", x.places(0, 5, 50, 2, 0), 1);
        long ahead = x.digest();
        int[][] bad = {{0, 0, 1, 0}, {1001, 0, 1, 0}, {1, -1, 1, 0}, {1, 101, 1, 0}, {1, 0, 0, 0}, {1, 0, 51, 0}, {1, 0, 1, -1},
            {1, 0, 1, 2}, {Due.MAX, 0, 1, 0}, {1, Due.MAX, 1, 0}, {1, 0, Due.MAX, 0}, {1, 0, 1, Due.MIN}};
        for (int[] b : bad) {
            due.refused("places" + Arrays.toString(b), x.places(0, b[0], b[1], b[2], b[3]), YarnMill.BAD, x, ahead);
        }
        due.is("an empty one", x.places(1, 1, 0, 1, 0), 0);
        due.is("an empty one", x.places(1, 1, 0, 1, 1), 0);
    }

    private static void placesByTheMean() {
        YarnMill x = Mills.withRow(150, 50, 150, 50, 100, 149, 51, 100);
        due.is("the thick bound itself", x.places(0, 50, 50, 1, 0), 2);
        due.is("the thin bound itself", x.places(0, 50, 50, 1, 1), 2);
        due.is("thin 0: the mean and less", x.places(0, 1000, 0, 1, 1), 3);
        due.is("thin 100: nothing but 0", x.places(0, 1000, 100, 1, 1), 0);
        YarnMill cut = Mills.withRow(101, 99, 101, 99, 101, 99, 101, 101, 101);
        due.is("the mean is cut to 100", cut.places(0, 1, 1, 1, 0), 4);
        due.is("the mean is cut to 100", cut.places(0, 1, 1, 3, 0), 1);
        due.is("the mean is cut to 100", cut.places(0, 1, 1, 1, 1), 3);
        YarnMill nothing = Mills.withRow(0, 0, 1, 0);
        due.is("a mean of 0: all are thick", nothing.places(0, 1000, 0, 4, 0), 1);
        due.is("a mean of 0: each sort for itself", nothing.places(0, 1000, 0, 1, 1), 2);
        YarnMill most = Mills.withAlike(11, 0);
        most.cell(0, 1000000);
        due.is("thick 1000", most.places(0, 1000, 100, 1, 0), 1);
        due.is("thin 100, 11", most.places(0, 1000, 100, 11, 1), 1);
        due.is("thin 100, 12", most.places(0, 1000, 100, 12, 1), 0);
    }

    private static void clearing() {
        YarnMill x = Mills.withRow(100, 100, 160, 170, 100, 20, 10, 100);
        due.is("cleared(0, 50, 50, 2)", x.cleared(0, 50, 50, 2), 2);
        rowIs("cleared", x, 0, 100, 100, 100, 100);
        YarnMill beside = Mills.withRow(101, 200, 200, 10, 10, 102, 200, 103, 10, 104);
        due.is("side by side", beside.cleared(0, 50, 50, 2), 1);
        rowIs("cleared", beside, 0, 101, 102, 200, 103, 10, 104);
        YarnMill ends = Mills.withRow(10, 200, 100, 101, 200, 102, 190, 10);
        due.is("at the ends", ends.cleared(0, 50, 50, 1), 1);
        rowIs("cleared", ends, 0, 100, 101, 102);
        YarnMill both = Mills.withRow(200, 100, 10, 100, 200);
        due.is("the mean is told once", both.cleared(0, 50, 50, 1), 1);
        rowIs("cleared", both, 0, 100, 100);
        YarnMill oneLeft = Mills.withRow(200, 100, 1, 1, 200);
        due.is("one is left", oneLeft.cleared(0, 90, 90, 1), 0);
        rowIs("cleared", oneLeft, 0, 100);
    }

    private static void clearingEdges() {
        YarnMill all = Mills.withRow(10, 190, 10, 190);
        due.is("all go", all.cleared(0, 10, 10, 1), 0);
        rowIs("all went", all, 0);
        due.is("an empty one", all.cleared(0, 10, 10, 1), 0);
        YarnMill nothing = Mills.withRow(0, 1, 0);
        due.is("a mean of 0", nothing.cleared(0, 1, 0, 3), 0);
        rowIs("a mean of 0", nothing, 0);
        YarnMill few = Mills.withRow(0, 1, 0);
        long ahead = few.digest();
        due.refused("too few", few.cleared(0, 1, 0, 4), 0, few, ahead);
        int[][] bad = {{0, 0, 1}, {1001, 0, 1}, {1, -1, 1}, {1, 101, 1}, {1, 0, 0}, {1, 0, 51}, {Due.MIN, 0, 1}, {1, Due.MIN, 1}, {1, 0, Due.MIN}};
        for (int[] b : bad) {
            due.refused("cleared" + Arrays.toString(b), few.cleared(0, b[0], b[1], b[2]), YarnMill.BAD, few, ahead);
        }
        YarnMill longOnes = Mills.withAlike(50, 0);
        Mills.fillAlike(longOnes, 0, 50, 100);
        due.is("l 50", longOnes.cleared(0, 1, 100, 50), 0);
        due.is("about(0, 0)", longOnes.about(0, 0), 0);
    }

    private static void clearingByTheMean() {
        YarnMill x = Mills.withRow(100, 150, 100, 50, 100, 149, 51, 100);
        due.is("the bounds themselves", x.cleared(0, 50, 50, 1), 1 + 1);
        rowIs("cleared", x, 0, 100, 100, 100, 149, 51, 100);
        YarnMill one = Mills.withRow(7);
        due.is("thin 0 takes a row of one", one.cleared(0, 1, 0, 1), 0);
        rowIs("cleared", one, 0);
        YarnMill stays = Mills.withRow(7);
        due.is("thin 1 does not", stays.cleared(0, 1, 1, 1), 0);
        rowIs("not cleared", stays, 0, 7);
    }

    /** No call on ROWS of 400 looks behind their last CELL. */
    private static void fullRows() {
        YarnMill x = Mills.withAlike(400, 1000);
        Mills.fillAlike(x, 1, 400, 2000);
        due.is("join(0, 1)", x.join(0, 1), 400);
        due.is("about(0, 1)", x.about(0, 1), 1200000);
        due.is("about(0, 2)", x.about(0, 2), 0);
        due.is("fault(0, 400, 500)", x.fault(0, 400, 500), 300000);
        due.is("fault(0, 2, 0)", x.fault(0, 2, 0), 0);
        due.is("wave(0, 200)", x.wave(0, 200), 0);
        int[] halves = Mills.alike(400, 1500);
        Arrays.fill(halves, 200, 400, 4500);
        due.is("greatest(0, 200)", x.greatest(0, 200), Waves.greatest(200, halves));
        due.is("thick", x.places(0, 50, 50, 50, 0), 1);
        due.is("thin", x.places(0, 50, 50, 50, 1), 1);
        due.is("cleared", x.cleared(0, 51, 50, 50), 0);
        due.is("about(0, 0)", x.about(0, 0), 200);
        due.is("gather(1, 3)", x.gather(1, 3), 134);
        due.is("the last one", x.at(1, 133), 2000);
    }

    /** What a ROW had ahead of empty, gather or cleared counts no more. */
    private static void whatWasIsGone() {
        YarnMill x = Mills.withAlike(10, 1000000);
        Mills.fillAlike(x, 1, 10, 1000000);
        x.empty(0);
        x.empty(1);
        Mills.fill(x, 0, 1, 2, 3);
        Mills.fill(x, 1, 1, 1, 1);
        due.is("join(0, 1)", x.join(0, 1), 3);
        due.is("about(0, 1)", x.about(0, 1), 9);
        due.is("wave(0, 2)", x.wave(0, 2), 2 * (4 + 9) - 25);
        due.is("thick", x.places(0, 30, 30, 1, 0), 1);
        due.is("fault(0, 4, 1000)", x.fault(0, 4, 1000), 0);
        due.is("gather(0, 2)", x.gather(0, 2), 2);
        due.is("cell(0, 6)", x.cell(0, 6), 3);
        rowIs("gathered", x, 0, 5, 4, 6);
        due.is("join(0, 1)", x.join(0, 1), 3);
        rowIs("joined", x, 0, 6, 5, 7);
        YarnMill first = Mills.withRow(1000000, 1);
        Mills.fill(first, 1, 1, 1);
        long ahead = first.digest();
        due.refused("the first one is above 1000000", first.join(0, 1), YarnMill.BEYOND, first, ahead);
        due.refused("the first one is above 1000000", first.gather(0, 2), YarnMill.BEYOND, first, ahead);
    }
}
