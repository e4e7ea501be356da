/** Promises 2 to 8: count, machine, roller, clear, countAt, period, names. */
public final class LineTest {
    private static final Due due = new Due();

    public static void main(String[] args) {
        countSetsTheFirst();
        machineEdges();
        machinesAreFullAtSix();
        rollers();
        clearTakesMachinesAndRollers();
        countAlongTheLine();
        countBeyond();
        countBeyondAhead();
        periods();
        longestPeriod();
        namesByTolerance();
        namesInOrder();
        due.end();
    }

    private static void countSetsTheFirst() {
        YarnMill x = new YarnMill();
        due.is("count(6, 4)", x.count(6, 4), 1);
        due.is("countAt(0, 0)", x.countAt(0, 0), 3);
        due.is("countAt(0, 1)", x.countAt(0, 1), 2);
        long ahead = x.digest();
        int[][] bad = {{0, 1}, {1, 0}, {10001, 1}, {1, 10001}, {-1, 5}, {5, -1}, {Due.MAX, 1}, {1, Due.MIN}};
        for (int[] b : bad) {
            due.refused("count(" + b[0] + ", " + b[1] + ")", x.count(b[0], b[1]), YarnMill.BAD, x, ahead);
        }
        due.is("count(10000, 9999)", x.count(10000, 9999), 1);
        due.is("countAt(0, 0)", x.countAt(0, 0), 10000);
        due.is("countAt(0, 1)", x.countAt(0, 1), 9999);
        due.is("count(10000, 10000)", x.count(10000, 10000), 1);
        due.is("countAt(0, 0)", x.countAt(0, 0), 1);
        due.is("count(1, 10000)", x.count(1, 10000), 1);
        due.is("countAt(0, 1)", x.countAt(0, 1), 10000);
    }

    private static void machineEdges() {
        YarnMill x = new YarnMill();
        due.is("machine(1, 1, 1, 0)", x.machine(1, 1, 1, 0), 0);
        due.is("machine(16, 60, 20, 500)", x.machine(16, 60, 20, 500), 1);
        long ahead = x.digest();
        int[][] bad = {{0, 1, 1, 0}, {17, 1, 1, 0}, {1, 0, 1, 0}, {1, 61, 1, 0}, {1, 1, 0, 0}, {1, 1, 21, 0},
            {1, 1, 1, -1}, {1, 1, 1, 501}, {Due.MAX, 1, 1, 1}, {1, Due.MIN, 1, 1}, {1, 1, Due.MAX, 1}, {1, 1, 1, Due.MIN}};
        for (int[] b : bad) {
            due.refused("machine" + java.util.Arrays.toString(b), x.machine(b[0], b[1], b[2], b[3]), YarnMill.BAD, x, ahead);
        }
    }

    private static void machinesAreFullAtSix() {
        YarnMill x = new YarnMill();
        for (int k = 0; k < 6; k++) {
            due.is("machine " + k, x.machine(1, 2, 1, 0), k);
        }
        long ahead = x.digest();
        due.refused("a seventh machine", x.machine(1, 2, 1, 0), YarnMill.FULL, x, ahead);
        due.refused("BAD is ahead of FULL", x.machine(0, 2, 1, 0), YarnMill.BAD, x, ahead);
        due.is("countAt(6, 1)", x.countAt(6, 1), 64);
    }

    private static void rollers() {
        YarnMill x = new YarnMill();
        due.is("roller(0, 1) without a machine", x.roller(0, 1), YarnMill.BAD);
        x.machine(1, 1, 1, 0);
        x.machine(1, 1, 1, 0);
        due.is("roller(1, 1)", x.roller(1, 1), 0);
        due.is("roller(1, 1000)", x.roller(1, 1000), 1);
        due.is("roller(0, 5)", x.roller(0, 5), 0);
        due.is("roller(1, 7)", x.roller(1, 7), 2);
        long ahead = x.digest();
        due.refused("roller(1, 8)", x.roller(1, 8), YarnMill.FULL, x, ahead);
        due.refused("roller(1, 0)", x.roller(1, 0), YarnMill.BAD, x, ahead);
        due.refused("roller(0, 1001)", x.roller(0, 1001), YarnMill.BAD, x, ahead);
        due.refused("roller(2, 5)", x.roller(2, 5), YarnMill.BAD, x, ahead);
        due.refused("roller(-1, 5)", x.roller(-1, 5), YarnMill.BAD, x, ahead);
        due.refused("roller(MAX, 5)", x.roller(Due.MAX, 5), YarnMill.BAD, x, ahead);
        due.is("period(1, 0, 0)", x.period(1, 0, 0), 1);
        due.is("period(1, 1, 0)", x.period(1, 1, 0), 1000);
        due.is("period(1, 2, 0)", x.period(1, 2, 0), 7);
        due.is("many(1)", x.many(1), 4);
    }

    private static void clearTakesMachinesAndRollers() {
        YarnMill x = new YarnMill();
        due.is("clear()", x.clear(), 0);
        x.count(7, 3);
        x.machine(2, 3, 1, 0);
        x.roller(0, 9);
        x.machine(2, 3, 1, 0);
        due.is("clear()", x.clear(), 2);
        due.is("many(0)", x.many(0), 0);
        due.is("many(1)", x.many(1), 0);
        due.is("the first count stays", x.countAt(0, 0), 7);
        due.is("no period of what went", x.period(0, 0, 0), YarnMill.BAD);
        due.is("no name of what went", x.names(27, 0, 0), YarnMill.NONE);
        due.is("no roller on what went", x.roller(0, 9), YarnMill.BAD);
        due.is("machine", x.machine(1, 1, 1, 0), 0);
        due.is("it has no roller", x.period(0, 0, 0), YarnMill.BAD);
        due.is("roller(0, 4)", x.roller(0, 4), 0);
        due.is("clear()", x.clear(), 1);
    }

    private static void countAlongTheLine() {
        YarnMill x = new YarnMill();
        x.count(40, 1);
        x.machine(1, 8, 1, 50);
        x.machine(6, 6, 1, 10);
        x.machine(1, 25, 2, 20);
        long[][] want = {{40, 1}, {19, 4}, {1881, 400}, {92169, 250000}};
        for (int k = 0; k <= 3; k++) {
            due.is("countAt(" + k + ", 0)", x.countAt(k, 0), want[k][0]);
            due.is("countAt(" + k + ", 1)", x.countAt(k, 1), want[k][1]);
        }
        long ahead = x.digest();
        due.refused("countAt(4, 0)", x.countAt(4, 0), YarnMill.BAD, x, ahead);
        due.refused("countAt(-1, 0)", x.countAt(-1, 0), YarnMill.BAD, x, ahead);
        due.refused("countAt(0, 2)", x.countAt(0, 2), YarnMill.BAD, x, ahead);
        due.refused("countAt(0, -1)", x.countAt(0, -1), YarnMill.BAD, x, ahead);
        due.refused("countAt(MAX, MIN)", x.countAt(Due.MAX, Due.MIN), YarnMill.BAD, x, ahead);
    }

    private static void countBeyond() {
        YarnMill above = new YarnMill();
        above.count(10000, 1);
        for (int k = 0; k < 4; k++) {
            above.machine(10, 1, 10, 0);
        }
        due.is("10^12 above is not beyond", above.countAt(4, 0), 1000000000000L);
        due.is("its below", above.countAt(4, 1), 1);
        above.machine(2, 1, 1, 0);
        due.is("2 10^12 above", above.countAt(5, 0), YarnMill.BEYOND);
        due.is("2 10^12 above, asked for below", above.countAt(5, 1), YarnMill.BEYOND);
        due.is("BAD is ahead of BEYOND", above.countAt(5, 2), YarnMill.BAD);

        YarnMill below = new YarnMill();
        below.count(1, 10000);
        int[] drafts = {50, 50, 50, 50, 16, 2};
        for (int d : drafts) {
            below.machine(1, d, 1, 0);
        }
        due.is("10^12 below is not beyond", below.countAt(5, 1), 1000000000000L);
        due.is("its above", below.countAt(5, 0), 1);
        due.is("2 10^12 below", below.countAt(6, 1), YarnMill.BEYOND);
    }

    private static void countBeyondAhead() {
        YarnMill x = new YarnMill();
        x.count(10000, 1);
        for (int k = 0; k < 4; k++) {
            x.machine(16, 1, 20, 0);
        }
        x.machine(1, 60, 1, 500);
        x.machine(1, 60, 1, 500);
        due.is("countAt(3, 0)", x.countAt(3, 0), 327680000000L);
        due.is("countAt(4, 0)", x.countAt(4, 0), YarnMill.BEYOND);
        due.is("a small one behind one beyond", x.countAt(6, 0), YarnMill.BEYOND);
        due.is("digest() tells BEYOND twice", x.digest(), digestOfBeyond());
    }

    private static long digestOfBeyond() {
        long h = 149;
        long[] told = {6, 0, 0, 0, 0, -6, -6};
        for (long v : told) {
            h = 31 * h + v;
        }
        return h;
    }

    private static void periods() {
        YarnMill x = new YarnMill();
        x.machine(1, 8, 1, 50);
        x.machine(6, 6, 1, 10);
        x.machine(1, 25, 2, 20);
        x.roller(0, 30);
        x.roller(1, 25);
        x.roller(2, 25);
        long[][] want = {{2250, 1}, {625, 2}, {25, 1}};
        for (int k = 0; k < 3; k++) {
            due.is("period(" + k + ", 0, 0)", x.period(k, 0, 0), want[k][0]);
            due.is("period(" + k + ", 0, 1)", x.period(k, 0, 1), want[k][1]);
        }
        int[][] bad = {{3, 0, 0}, {-1, 0, 0}, {0, 1, 0}, {0, -1, 0}, {0, 0, 2}, {0, 0, -1}, {Due.MAX, 0, 0}, {0, Due.MAX, 1}, {0, Due.MIN, 1}};
        for (int[] b : bad) {
            due.is("period" + java.util.Arrays.toString(b), x.period(b[0], b[1], b[2]), YarnMill.BAD);
        }
    }

    private static void longestPeriod() {
        YarnMill x = new YarnMill();
        for (int k = 0; k < 6; k++) {
            x.machine(1, 60, 1, 0);
        }
        x.roller(0, 1000);
        due.is("period(0, 0, 0)", x.period(0, 0, 0), 777600000000L);
        due.is("names(1000000, 999, 0)", x.names(1000000, 999, 0), YarnMill.NONE);
        due.is("period(6, 0, 0)", x.period(6, 0, 0), YarnMill.BAD);
        due.is("roller(6, 1)", x.roller(6, 1), YarnMill.BAD);
        YarnMill y = new YarnMill();
        for (int k = 0; k < 6; k++) {
            y.machine(1, 1, 20, 0);
        }
        y.roller(0, 7);
        due.is("period(0, 0, 0)", y.period(0, 0, 0), 7);
        due.is("period(0, 0, 1)", y.period(0, 0, 1), 3200000);
        due.is("names(1000000, 999, 0)", y.names(1000000, 999, 0), YarnMill.NONE);
    }

    private static void namesByTolerance() {
        YarnMill x = new YarnMill();
        x.machine(1, 1, 1, 0);
        x.roller(0, 100);
        due.is("names(100, 0, 0)", x.names(100, 0, 0), 0);
        due.is("names(99, 10, 0)", x.names(99, 10, 0), YarnMill.NONE);
        due.is("names(99, 11, 0)", x.names(99, 11, 0), 0);
        due.is("names(101, 9, 0)", x.names(101, 9, 0), YarnMill.NONE);
        due.is("names(101, 10, 0)", x.names(101, 10, 0), 0);
        due.is("names(125, 200, 0): the lower bound itself", x.names(125, 200, 0), 0);
        due.is("names(125, 199, 0)", x.names(125, 199, 0), YarnMill.NONE);
        due.is("names(80, 250, 0): the upper bound itself", x.names(80, 250, 0), 0);
        due.is("names(80, 249, 0)", x.names(80, 249, 0), YarnMill.NONE);
        due.is("names(100000, 999, 0)", x.names(100000, 999, 0), 0);
        due.is("names(100001, 999, 0)", x.names(100001, 999, 0), YarnMill.NONE);
        due.is("names(1000000, 0, 0)", x.names(1000000, 0, 0), YarnMill.NONE);
        due.is("names(1, 0, 0)", x.names(1, 0, 0), YarnMill.NONE);
        int[][] bad = {{0, 0, 0}, {-1, 0, 0}, {1000001, 0, 0}, {1, -1, 0}, {1, 1000, 0}, {1, 0, -1}, {Due.MAX, 0, 0}, {1, Due.MAX, 0}, {1, 0, Due.MIN}};
        for (int[] b : bad) {
            due.is("names" + java.util.Arrays.toString(b), x.names(b[0], b[1], b[2]), YarnMill.BAD);
        }
    }

    private static void namesInOrder() {
        YarnMill x = new YarnMill();
        x.machine(1, 9, 1, 0);
        x.machine(1, 5, 2, 0);
        x.roller(1, 50);
        x.roller(1, 49);
        x.roller(1, 50);
        x.roller(0, 21);
        x.roller(0, 20);
        int[] want = {1, 8, 10};
        for (int i = 0; i < 3; i++) {
            due.is("names(50, 0, " + i + ")", x.names(50, 0, i), want[i]);
        }
        due.is("names(50, 0, 3)", x.names(50, 0, 3), YarnMill.NONE);
        due.is("names(50, 0, MAX)", x.names(50, 0, Due.MAX), YarnMill.NONE);
        due.is("names(52, 10, 0): 52.5", x.names(52, 10, 0), 0);
    }
}
