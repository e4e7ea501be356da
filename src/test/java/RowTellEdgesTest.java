import java.util.Arrays;

/** What is told of ROWS, and clearing, at the edges, promises 17 to 21: a test for each sentence that names one. */
public final class RowTellEdgesTest {
    private static final Due due = new Due();

    public static void main(String[] args) {
        aboutNoneAndOne();
        unevennessOfTheMost();
        waveOfNoneAndTooFew();
        waveOfWholeOnesAlone();
        waveOfTheMost();
        greatestNeedsFourCells();
        greatestUpToHalfTheCells();
        greatestUpToMost();
        greatestUpToTwoHundred();
        greatestOfLikeOnes();
        greatestByCellsThatWereTaken();
        greatestOfNearlyLikeOnes();
        greatestOfTheHeaviest();
        placesOfNone();
        placesFromTheThickBoundOn();
        placesUpToTheThinBound();
        placesByTheMeanCut();
        placesByTheLeastAndGreatestLaw();
        placesOfLengthAndMore();
        placesAtBothEnds();
        placesSideBySide();
        placesOfAMeanOfZero();
        placesOfAFullRow();
        clearedOfNone();
        clearedWithoutPlaces();
        clearedAtBothEnds();
        clearedOfAll();
        clearedSideBySide();
        clearedApart();
        clearedByTheBounds();
        clearedByTheLength();
        clearedThickOnesFirst();
        clearedByTheMeanThatWas();
        clearedOfAFullRow();
        due.end();
    }

    private static void aboutNoneAndOne() {
        YarnMill x = Mills.withRow(1000000);
        for (int what = 0; what <= 2; what++) {
            due.is("of none", x.about(1, what), 0);
        }
        due.is("one cell", x.about(0, 0), 1);
        due.is("its mass", x.about(0, 1), 1000000);
        due.is("it is even", x.about(0, 2), 0);
        x.cell(0, 999999);
        due.is("the least unevenness", x.about(0, 2), 1);
    }

    private static void unevennessOfTheMost() {
        YarnMill even = Mills.withAlike(400, 1000000);
        due.is("400 of 1000000", even.about(0, 1), 400000000);
        due.is("they are even", even.about(0, 2), 0);
        YarnMill half = Mills.withRow(Mills.alike(200, 1000000));
        Mills.fillAlike(half, 0, 200, 0);
        due.is("400 200 10^12 - (200 10^6)^2", half.about(0, 2), 40000000000000000L);
    }

    private static void waveOfNoneAndTooFew() {
        YarnMill x = Mills.withRow(5, 9);
        due.is("of none", x.wave(1, 2), 0);
        due.is("of none", x.wave(1, 200), 0);
        due.is("as many as P", x.wave(0, 2), 2 * (25 + 81) - 14 * 14);
        due.is("one too few", x.wave(0, 3), 0);
        due.is("far too few", x.wave(0, 200), 0);
        YarnMill one = Mills.withRow(5);
        due.is("a single one", one.wave(0, 2), 0);
    }

    private static void waveOfWholeOnesAlone() {
        YarnMill x = Mills.withRow(5, 9, 6, 2, 1000);
        due.is("two by two", x.wave(0, 2), 2 * (11 * 11 + 11 * 11) - 22 * 22);
        due.is("three by three", x.wave(0, 3), 3 * (25 + 81 + 36) - 20 * 20);
        due.is("four by four", x.wave(0, 4), 4 * (25 + 81 + 36 + 4) - 22 * 22);
        due.is("five by five", x.wave(0, 5), 5 * (25 + 81 + 36 + 4 + 1000000) - 1022 * 1022);
        due.is("six by six", x.wave(0, 6), 0);
    }

    private static void waveOfTheMost() {
        YarnMill x = Mills.withRow(Mills.alike(100, 1000000));
        Mills.fillAlike(x, 0, 100, 0);
        Mills.fill(x, 0, Mills.alike(100, 1000000));
        Mills.fillAlike(x, 0, 100, 0);
        due.is("wave(0, 200)", x.wave(0, 200), 40000000000000000L);
        due.is("wave(0, 2)", x.wave(0, 2), 0);
        due.is("wave(0, 201)", x.wave(0, 201), -1);
        YarnMill even = Mills.withAlike(400, 1000000);
        due.is("the greatest sums", even.wave(0, 200), 0);
        due.is("the greatest sums", even.wave(0, 2), 0);
    }

    private static void greatestNeedsFourCells() {
        YarnMill x = new YarnMill();
        for (int n = 0; n < 4; n++) {
            due.is(n + " cells", x.greatest(0, 200), YarnMill.NONE);
            due.is(n + " cells, up to 2", x.greatest(0, 2), YarnMill.NONE);
            x.cell(0, n);
        }
        due.is("4 cells", x.greatest(0, 200), 2);
        due.is("4 cells, up to 2", x.greatest(0, 2), 2);
    }

    private static void greatestUpToHalfTheCells() {
        due.is("6 cells: 3", Mills.withRow(9, 0, 0, 9, 0, 0).greatest(0, 200), 3);
        due.is("5 cells: not 3", Mills.withRow(9, 0, 0, 9, 0).greatest(0, 200), 2);
        due.is("7 cells: 3", Mills.withRow(9, 0, 0, 9, 0, 0, 9).greatest(0, 200), 3);
        due.is("7 cells: not 4", Mills.withRow(9, 0, 0, 0, 9, 0, 0).greatest(0, 200), Waves.greatest(3, 9, 0, 0, 0, 9, 0, 0));
        due.is("8 cells: 4", Mills.withRow(9, 0, 0, 0, 9, 0, 0, 0).greatest(0, 200), 4);
    }

    private static void greatestUpToMost() {
        YarnMill x = Mills.withRow(9, 0, 0, 0, 0, 9, 0, 0, 0, 0, 9, 0, 0, 0, 0);
        due.is("up to 5", x.greatest(0, 5), 5);
        due.is("up to 4", x.greatest(0, 4), Waves.greatest(4, 9, 0, 0, 0, 0, 9, 0, 0, 0, 0, 9, 0, 0, 0, 0));
        due.is("up to 2", x.greatest(0, 2), 2);
        due.is("up to 1", x.greatest(0, 1), YarnMill.BAD);
    }

    private static void greatestUpToTwoHundred() {
        int[] masses = new int[400];
        masses[7] = 1000000;
        masses[207] = 1000000;
        YarnMill x = Mills.withRow(masses);
        due.is("up to 200", x.greatest(0, 200), 200);
        due.is("up to 199", x.greatest(0, 199), Waves.greatest(199, masses));
        due.is("up to 201", x.greatest(0, 201), YarnMill.BAD);
        due.is("399 cells: not 200", Mills.withRow(Arrays.copyOf(masses, 399)).greatest(0, 200), Waves.greatest(199, Arrays.copyOf(masses, 399)));
    }

    private static void greatestOfLikeOnes() {
        due.is("all alike", Mills.withAlike(400, 9).greatest(0, 200), 2);
        due.is("all 0", Mills.withAlike(12, 0).greatest(0, 200), 2);
        due.is("2, 4 and 6 have the same: 9 0 9 0 ..", Mills.withRow(9, 0, 9, 0, 9, 0, 9, 0, 9, 0, 9, 0).greatest(0, 6), 2);
        due.is("3 and 6 have the same: 9 0 0 ..", Mills.withRow(9, 0, 0, 9, 0, 0, 9, 0, 0, 9, 0, 0).greatest(0, 6), 3);
    }

    /** 13 CELLS: by 3 there are 12 taken and by 4 as well, by 5 only 10; the WAVES themselves have another order. */
    private static void greatestByCellsThatWereTaken() {
        int[] masses = {7, 1, 3, 0, 8, 2, 9, 4, 4, 6, 1, 5, 1000};
        YarnMill x = Mills.withRow(masses);
        for (int most = 2; most <= 6; most++) {
            due.is("up to " + most, x.greatest(0, most), Waves.greatest(most, masses));
        }
    }

    /** Every ROW of 9 CELLS of 0, 1 or 2: many have WAVES that differ by less than 1 as they are held. */
    private static void greatestOfNearlyLikeOnes() {
        int[] masses = new int[9];
        for (int kind = 0; kind < 19683; kind++) {
            int rest = kind;
            for (int i = 0; i < 9; i++) {
                masses[i] = rest % 3;
                rest /= 3;
            }
            due.is("row " + Arrays.toString(masses), Mills.withRow(masses).greatest(0, 4), Waves.greatest(4, masses));
        }
    }

    /** Multiplied across, these WAVES would leave a long. */
    private static void greatestOfTheHeaviest() {
        for (int p : new int[] {2, 3, 101, 133, 178, 199, 200}) {
            int[] masses = new int[400];
            for (int i = 0; i < 400; i++) {
                masses[i] = i % p < p / 2 ? 1000000 : 0;
            }
            due.is("a period of " + p, Mills.withRow(masses).greatest(0, 200), Waves.greatest(200, masses));
            masses[399] = 999999;
            due.is("a period of " + p + ", one other", Mills.withRow(masses).greatest(0, 200), Waves.greatest(200, masses));
        }
    }

    private static void places(String what, YarnMill x, int thick, int thin, int l, int thickOnes, int thinOnes) {
        due.is(what + ": thick ones", x.places(0, thick, thin, l, 0), thickOnes);
        due.is(what + ": thin ones", x.places(0, thick, thin, l, 1), thinOnes);
    }

    private static void placesOfNone() {
        YarnMill x = new YarnMill();
        places("of none", x, 1, 0, 1, 0, 0);
        places("of none", x, 1000, 100, 50, 0, 0);
    }

    /** A mean of 1000: THICK by 25 is 1250 and more. */
    private static void placesFromTheThickBoundOn() {
        places("1250", Mills.withRow(1250, 750), 25, 100, 1, 1, 0);
        places("1249", Mills.withRow(1249, 751), 25, 100, 1, 0, 0);
        places("1250, by 26", Mills.withRow(1250, 750), 26, 100, 1, 0, 0);
        places("a mean of 50: 50.5 is not met by 50", Mills.withRow(50, 50), 1, 100, 1, 0, 0);
        places("a mean of 50: 50.5 is met by 51", Mills.withRow(51, 49), 1, 100, 1, 1, 0);
    }

    /** A mean of 1000: THIN by 25 is 750 and less. */
    private static void placesUpToTheThinBound() {
        places("750", Mills.withRow(1250, 750), 1000, 25, 1, 0, 1);
        places("751", Mills.withRow(1249, 751), 1000, 25, 1, 0, 0);
        places("750, by 26", Mills.withRow(1250, 750), 1000, 26, 1, 0, 0);
        places("a mean of 50: 49.5 is not met by 50", Mills.withRow(50, 50), 1000, 1, 1, 0, 0);
        places("a mean of 50: 49.5 is met by 49", Mills.withRow(51, 49), 1000, 1, 1, 0, 1);
    }

    /** 101 and 100 have 100.5, cut to 100. */
    private static void placesByTheMeanCut() {
        places("101 and 100", Mills.withRow(101, 100), 1, 0, 1, 1, 1);
        places("101 and 101: 101", Mills.withRow(101, 101), 1, 0, 2, 0, 1);
        places("199 in two: 99", Mills.withRow(100, 99), 1, 0, 1, 1, 1);
    }

    private static void placesByTheLeastAndGreatestLaw() {
        int[] masses = Mills.alike(11, 0);
        masses[10] = 1100;
        places("thick 1000: 11 times the mean itself", Mills.withRow(masses), 1000, 100, 1, 1, 1);
        masses[0] = 10;
        masses[10] = 1090;
        places("thick 1000: a little less", Mills.withRow(masses), 1000, 100, 1, 0, 1);
        places("thick 999: 1099 is not met", Mills.withRow(masses), 999, 100, 1, 0, 1);
        places("thin 100: 0 alone", Mills.withRow(0, 1, 0, 199, 300), 200, 100, 1, 1, 2);
        places("thin 99: 1 as well", Mills.withRow(0, 1, 0, 199, 300), 200, 99, 1, 1, 1);
        places("thin 0: the mean itself", Mills.withRow(100, 100), 1000, 0, 2, 0, 1);
        places("thin 0: not above it", Mills.withRow(101, 99), 1000, 0, 1, 0, 1);
    }

    private static void placesOfLengthAndMore() {
        YarnMill x = Mills.withRow(100, 200, 200, 200, 100, 0, 0, 0, 100);
        places("1", x, 50, 50, 1, 1, 1);
        places("2: one, not two", x, 50, 50, 2, 1, 1);
        places("3: as long as they are", x, 50, 50, 3, 1, 1);
        places("4: longer than they are", x, 50, 50, 4, 0, 0);
        YarnMill fifty = Mills.withAlike(50, 200);
        Mills.fillAlike(fifty, 0, 50, 0);
        places("50 of 50", fifty, 50, 50, 50, 1, 1);
        YarnMill less = Mills.withAlike(49, 200);
        Mills.fillAlike(less, 0, 49, 0);
        places("50 of 49", less, 50, 50, 50, 0, 0);
        places("49 of 49", less, 50, 50, 49, 1, 1);
    }

    private static void placesAtBothEnds() {
        places("thick at both", Mills.withRow(200, 0, 100, 0, 200), 50, 50, 1, 2, 2);
        places("thin at both", Mills.withRow(0, 200, 100, 200, 0), 50, 50, 1, 2, 2);
        places("a run to the end", Mills.withRow(100, 0, 0, 200, 200), 50, 50, 2, 1, 1);
        places("a run too short at the end", Mills.withRow(0, 0, 200, 100, 200), 50, 50, 2, 0, 1);
        places("a run too short at the beginning", Mills.withRow(200, 100, 200, 200, 100, 0, 0, 0), 50, 50, 2, 1, 1);
    }

    private static void placesSideBySide() {
        places("thick, thin, thick, thin", Mills.withRow(200, 0, 200, 0), 50, 50, 1, 2, 2);
        places("by two", Mills.withRow(200, 200, 0, 0, 200, 0), 50, 50, 2, 1, 1);
        places("one cell between two", Mills.withRow(200, 200, 100, 200, 200, 0, 0, 100, 0, 0), 50, 50, 2, 2, 2);
    }

    /** By a mean of 0 each CELL is THICK, and those of 0 are THIN as well: each sort for itself. */
    private static void placesOfAMeanOfZero() {
        places("0 0 1 0", Mills.withRow(0, 0, 1, 0), 1, 0, 1, 1, 2);
        places("0 0 1 0, by 2", Mills.withRow(0, 0, 1, 0), 1000, 100, 2, 1, 1);
        places("0 0 1 0, by 4", Mills.withRow(0, 0, 1, 0), 1000, 100, 4, 1, 0);
        places("0 0 1 0, by 5", Mills.withRow(0, 0, 1, 0), 1000, 100, 5, 0, 0);
        places("0", Mills.withRow(0), 1000, 100, 1, 1, 1);
    }

    private static void placesOfAFullRow() {
        YarnMill x = Mills.withAlike(100, 100);
        Mills.fillAlike(x, 0, 100, 0);
        Mills.fillAlike(x, 0, 100, 100);
        Mills.fillAlike(x, 0, 100, 200);
        places("100 of each", x, 100, 100, 50, 1, 1);
        YarnMill even = Mills.withAlike(400, 1000000);
        places("even", even, 1, 1, 1, 0, 0);
        places("even, thin 0", even, 1000, 0, 50, 0, 1);
    }

    private static void cleared(String what, YarnMill x, int thick, int thin, int l, int splices, String left) {
        due.is(what + ": splices", x.cleared(0, thick, thin, l), splices);
        due.same(what + ": left", Mills.row(x, 0), left);
    }

    private static void clearedOfNone() {
        cleared("of none", new YarnMill(), 1, 0, 1, 0, "");
        cleared("of none", new YarnMill(), 1000, 100, 50, 0, "");
    }

    private static void clearedWithoutPlaces() {
        cleared("even", Mills.withRow(100, 100, 100), 1, 1, 1, 0, "100 100 100");
        cleared("one", Mills.withRow(7), 1, 1, 1, 0, "7");
    }

    private static void clearedAtBothEnds() {
        cleared("at the beginning", Mills.withRow(200, 200, 100, 100, 0, 0, 0, 101, 102), 50, 50, 3, 1, "200 200 100 100 101 102");
        cleared("the beginning alone", Mills.withRow(0, 0, 100, 101, 102), 70, 50, 2, 0, "100 101 102");
        cleared("the end alone", Mills.withRow(100, 101, 102, 0, 0), 70, 50, 2, 0, "100 101 102");
        cleared("both ends", Mills.withRow(200, 100, 101, 0), 50, 50, 1, 0, "100 101");
        cleared("several at both ends", Mills.withRow(200, 0, 100, 101, 0, 200), 50, 50, 1, 0, "100 101");
        cleared("both ends and the midst", Mills.withRow(200, 100, 0, 101, 200), 50, 50, 1, 1, "100 101");
        cleared("one cell left at the beginning", Mills.withRow(100, 200, 0), 50, 50, 1, 0, "100");
        cleared("one cell left at the end", Mills.withRow(200, 0, 100), 50, 50, 1, 0, "100");
        cleared("one cell left in the midst", Mills.withRow(0, 100, 200), 50, 50, 1, 0, "100");
    }

    private static void clearedOfAll() {
        cleared("one place", Mills.withRow(100, 100), 1, 0, 1, 0, "");
        cleared("several places", Mills.withRow(200, 0, 200, 0), 50, 50, 1, 0, "");
        YarnMill x = Mills.withRow(7);
        cleared("a single cell", x, 1, 0, 1, 0, "");
        due.is("cells come again", x.cell(0, 5), 1);
    }

    private static void clearedSideBySide() {
        cleared("thick, thin", Mills.withRow(100, 200, 0, 101), 50, 50, 1, 1, "100 101");
        cleared("thin, thick", Mills.withRow(100, 0, 200, 101), 50, 50, 1, 1, "100 101");
        cleared("thick, thin, thick", Mills.withRow(100, 200, 0, 0, 200, 101), 50, 50, 1, 1, "100 101");
        cleared("one of them too short", Mills.withRow(100, 200, 200, 0, 100), 50, 50, 2, 1, "100 0 100");
    }

    private static void clearedApart() {
        cleared("one cell between", Mills.withRow(100, 200, 101, 0, 102), 50, 50, 1, 2, "100 101 102");
        cleared("a place too short between", Mills.withRow(100, 200, 200, 0, 200, 200, 0, 0, 100), 50, 50, 2, 2, "100 0 100");
        cleared("three", Mills.withRow(100, 0, 101, 200, 102, 0, 103), 50, 50, 1, 3, "100 101 102 103");
    }

    /** A mean of 1000: 1250 and 750 go by 25, 1249 and 751 stay. */
    private static void clearedByTheBounds() {
        cleared("thick", Mills.withRow(1000, 1250, 1000, 1249, 1000, 501), 25, 100, 1, 1, "1000 1000 1249 1000 501");
        cleared("thin", Mills.withRow(1000, 750, 1000, 751, 1000, 1499), 1000, 25, 1, 1, "1000 1000 751 1000 1499");
    }

    private static void clearedByTheLength() {
        int[] masses = Mills.alike(101, 100);
        Arrays.fill(masses, 1, 51, 0);
        YarnMill x = Mills.withRow(masses);
        due.is("50 go by 50", x.cleared(0, 1000, 100, 50), 1);
        due.is("51 are left", x.about(0, 0), 51);
        masses[50] = 100;
        YarnMill y = Mills.withRow(masses);
        due.is("49 stay by 50", y.cleared(0, 1000, 100, 50), 0);
        due.is("101 are left", y.about(0, 0), 101);
        due.is("49 go by 49", y.cleared(0, 1000, 100, 49), 1);
        due.is("52 are left", y.about(0, 0), 52);
    }

    /** By a mean of 0 all is one THICK place; were the THIN 0 0 ahead of it, the 1 would be too short and stay. */
    private static void clearedThickOnesFirst() {
        cleared("0 0 1", Mills.withRow(0, 0, 1), 1, 0, 2, 0, "");
        cleared("0 0 1, by 3", Mills.withRow(0, 0, 1), 1, 0, 3, 0, "");
        cleared("0 0 1, by 4", Mills.withRow(0, 0, 1), 1, 0, 4, 0, "0 0 1");
    }

    /** A mean of 100: were it told anew as the first ones go, the later ones would go or stay by another one. */
    private static void clearedByTheMeanThatWas() {
        YarnMill x = Mills.withRow(400, 100, 55, 55, 55, 55, 55, 25);
        cleared("a mean of 100", x, 50, 50, 1, 0, "100 55 55 55 55 55");
        cleared("then of 62", x, 50, 50, 1, 0, "55 55 55 55 55");
    }

    private static void clearedOfAFullRow() {
        YarnMill x = Mills.withAlike(100, 100);
        Mills.fillAlike(x, 0, 100, 0);
        Mills.fillAlike(x, 0, 100, 100);
        Mills.fillAlike(x, 0, 100, 200);
        due.is("one in the midst, one at the end", x.cleared(0, 100, 100, 50), 1);
        due.is("200 are left", x.about(0, 0), 200);
        due.is("their mass", x.about(0, 1), 20000);
        due.is("behind them", x.at(0, 200), YarnMill.NONE);
        due.is("cells come again", x.cell(0, 5), 201);
        YarnMill y = Mills.withAlike(399, 100);
        y.cell(0, 0);
        due.is("the last one", y.cleared(0, 1000, 50, 1), 0);
        due.is("399 are left", y.about(0, 0), 399);
    }
}
