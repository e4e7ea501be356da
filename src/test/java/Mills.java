import java.util.Arrays;

/**
 * Objects in the states that tests begin with, and all that an object tells. What an object answers
 * behind its 512th call is free, so neither takes more than some hundred calls, but for rows of
 * masses that must come CELL by CELL.
 */
final class Mills {
    private static final int MOST_DRAWN = 100;
    private static final int MOST_MEAN = 10000;
    private static final int CELLS_TOLD = 12;
    private static final int[][] BOUNDS = {{0, 10000}, {5, 6}, {0, 5}, {6, 10000}};

    private Mills() {
    }

    /** Something of every kind, and nothing full: 3 MACHINES, 4 ROLLERS, ROWS 0 to 3 and 7, 4 BALES, a PLAN. */
    static YarnMill working() {
        YarnMill x = new YarnMill();
        x.count(7, 3);
        x.machine(2, 8, 3, 50);
        x.machine(6, 6, 5, 10);
        x.machine(1, 25, 2, 20);
        x.roller(0, 30);
        x.roller(0, 31);
        x.roller(1, 25);
        x.roller(2, 25);
        fill(x, 0, 10, 20, 30, 40, 50, 60, 70, 80);
        fill(x, 1, 1, 2, 3, 4, 5, 6, 7, 8);
        fill(x, 2, 3, 4, 1000000, 5);
        fill(x, 3, 6, 7, 1, 999999);
        fill(x, 7, 9);
        bales(x, 4, 8, 6, 6);
        x.plan(2, 6, 6);
        return x;
    }

    /** All that can be full is full, and the COUNT is BEYOND; ROWS 0 and 1 have 400 CELLS, ROW 2 has 350. */
    static YarnMill full() {
        YarnMill x = new YarnMill();
        x.count(10000, 1);
        for (int k = 0; k < 6; k++) {
            x.machine(16, 1, 20, 0);
            x.roller(k, 1000);
            x.roller(k, 1);
            x.roller(k, 500);
        }
        fillAlike(x, 0, 400, 70);
        fillAlike(x, 1, 399, 80);
        x.cell(1, 1000000);
        fillAlike(x, 2, 350, 90);
        bales(x, 5, 5, 5, 5, 5, 6, 5, 5, 5, 5, 5, 5);
        x.plan(6, 5, 6);
        return x;
    }

    static YarnMill withRow(int... masses) {
        YarnMill x = new YarnMill();
        fill(x, 0, masses);
        return x;
    }

    static YarnMill withAlike(int n, int mass) {
        YarnMill x = new YarnMill();
        fillAlike(x, 0, n, mass);
        return x;
    }

    static YarnMill withBales(int... numbers) {
        YarnMill x = new YarnMill();
        bales(x, numbers);
        return x;
    }

    static void fill(YarnMill x, int row, int... masses) {
        for (int mass : masses) {
            x.cell(row, mass);
        }
    }

    static void fillAlike(YarnMill x, int row, int n, int mass) {
        if (mass > MOST_MEAN) {
            fill(x, row, alike(n, mass));
            return;
        }
        for (int left = n; left > 0; left -= MOST_DRAWN) {
            x.draw(row, Math.min(left, MOST_DRAWN), mass, 0, 0);
        }
    }

    static void bales(YarnMill x, int... numbers) {
        for (int v : numbers) {
            x.bale(v);
        }
    }

    static int[] alike(int n, int mass) {
        int[] masses = new int[n];
        Arrays.fill(masses, mass);
        return masses;
    }

    static String row(YarnMill x, int row) {
        StringBuilder told = new StringBuilder();
        for (int i = 0; i < x.about(row, 0); i++) {
            told.append(i == 0 ? "" : " ").append(x.at(row, i));
        }
        return told.toString();
    }

    /** BALES by LAYDOWNS: "0 1, 2 3". */
    static String plan(YarnMill x) {
        StringBuilder told = new StringBuilder();
        for (int k = 0; x.planAt(k, 0) >= 0; k++) {
            told.append(k == 0 ? "" : ", ");
            for (int i = 0; x.planAt(k, i) >= 0; i++) {
                told.append(i == 0 ? "" : " ").append(x.planAt(k, i));
            }
        }
        return told.toString();
    }

    /** What can be asked; then what more calls answer, as numbers of BALES show in plans alone. Used once an object. */
    static String all(YarnMill x) {
        StringBuilder told = new StringBuilder();
        tellLine(x, told);
        tellRows(x, told);
        told.append(" plan ").append(plan(x)).append(" tries ").append(x.tries());
        told.append(" digest ").append(x.digest());
        tellWhatComes(x, told);
        return told.toString();
    }

    private static void tellLine(YarnMill x, StringBuilder told) {
        for (int what = 0; what <= 4; what++) {
            told.append(" many ").append(x.many(what));
        }
        for (int k = 0; k <= x.many(0); k++) {
            told.append(" count ").append(x.countAt(k, 0)).append('/').append(x.countAt(k, 1));
            for (int r = 0; r < 3; r++) {
                told.append(" period ").append(x.period(k, r, 0)).append('/').append(x.period(k, r, 1));
            }
        }
    }

    private static void tellRows(YarnMill x, StringBuilder told) {
        for (int row = 0; row < 8; row++) {
            told.append(" row");
            for (int what = 0; what <= 2; what++) {
                told.append(' ').append(x.about(row, what));
            }
            for (int i = 0; i < CELLS_TOLD && x.at(row, i) >= 0; i++) {
                told.append(' ').append(x.at(row, i));
            }
        }
    }

    private static void tellWhatComes(YarnMill x, StringBuilder told) {
        told.append(" machine ").append(x.machine(1, 2, 1, 0)).append(" roller ").append(x.roller(0, 9));
        told.append(" cell ").append(x.cell(0, 9)).append(" of ").append(x.many(4));
        for (int n = 1; n <= 6; n++) {
            for (int[] b : BOUNDS) {
                told.append(" plan ").append(x.plan(n, b[0], b[1])).append(" tries ").append(x.tries());
            }
        }
        told.append(" bale ").append(x.bale(9)).append(" digest ").append(x.digest());
    }
}
