import java.math.BigInteger;

/** The whole object at its edges, promises 1, 27 and 28, and its 512 calls: a test for each sentence that names one. */
public final class StateEdgesTest {
    private static final Due due = new Due();

    public static void main(String[] args) {
        aNewObject();
        manyOfNothing();
        manyOfAllThatIsFull();
        manyBehindClearing();
        digestOfNothing();
        digestTellsBeyondTwice();
        digestOfOneOfEach();
        digestTellsRowsInOrder();
        digestTellsThePlanInOrder();
        digestWrapsAround();
        digestOfWhatIsNotTold();
        theLastOfAllCalls();
        due.end();
    }

    private static BigInteger mixed(BigInteger h, long v) {
        return h.multiply(BigInteger.valueOf(31)).add(BigInteger.valueOf(v));
    }

    /** The lowest 64 bits of the sum that nothing wraps around in. */
    private static long digestOf(long... told) {
        BigInteger h = BigInteger.valueOf(149);
        for (long v : told) {
            h = mixed(h, v);
        }
        return h.longValue();
    }

    private static void aNewObject() {
        due.same("it is told as another new one", Mills.all(new YarnMill()), Mills.all(new YarnMill()));
        YarnMill cleared = Mills.working();
        cleared.count(1, 1);
        cleared.clear();
        cleared.clearBales();
        for (int row = 0; row < 8; row++) {
            cleared.empty(row);
        }
        // By now two TRIES are told: a search without BALES leaves none.
        cleared.plan(1, 0, 0);
        due.same("it is told as one that lost all", Mills.all(new YarnMill()), Mills.all(cleared));
    }

    private static void manyOfNothing() {
        YarnMill x = new YarnMill();
        for (int what = 0; what <= 4; what++) {
            due.is("many(" + what + ")", x.many(what), 0);
        }
        due.is("many(-1)", x.many(-1), YarnMill.BAD);
        due.is("many(5)", x.many(5), YarnMill.BAD);
    }

    private static void manyOfAllThatIsFull() {
        YarnMill x = new YarnMill();
        for (int k = 0; k < 6; k++) {
            x.machine(1, 1, 1, 0);
            for (int r = 0; r < 3; r++) {
                x.roller(k, 1);
            }
        }
        for (int row = 0; row < 8; row++) {
            Mills.fillAlike(x, row, 400, 5);
        }
        for (int b = 0; b < 12; b++) {
            x.bale(5);
        }
        x.plan(1, 5, 5);
        int[] want = {6, 18, 12, 12, 3200};
        for (int what = 0; what <= 4; what++) {
            due.is("many(" + what + ")", x.many(what), want[what]);
        }
    }

    private static void manyBehindClearing() {
        YarnMill x = Mills.full();
        x.clear();
        due.is("machines", x.many(0), 0);
        due.is("rollers", x.many(1), 0);
        due.is("bales", x.many(2), 12);
        due.is("laydowns", x.many(3), 2);
        due.is("cells", x.many(4), 1150);
        x.clearBales();
        due.is("bales", x.many(2), 0);
        due.is("laydowns", x.many(3), 0);
        x.empty(0);
        due.is("cells", x.many(4), 750);
    }

    private static void digestOfNothing() {
        due.is("a new object", new YarnMill().digest(), digestOf(0, 0, 0, 0, 0, 1, 1));
    }

    private static void digestTellsBeyondTwice() {
        YarnMill x = new YarnMill();
        x.count(10000, 1);
        for (int k = 0; k < 6; k++) {
            x.machine(16, 1, 20, 0);
        }
        due.is("BEYOND", x.digest(), digestOf(6, 0, 0, 0, 0, -6, -6));
    }

    private static void digestOfOneOfEach() {
        YarnMill x = new YarnMill();
        x.count(10, 4);
        x.machine(1, 1, 3, 0);
        x.roller(0, 77);
        x.cell(3, 1000000);
        x.bale(9);
        x.plan(1, 9, 9);
        due.is("one of each", x.digest(), digestOf(1, 1, 1, 1, 1, 15, 2, 1000000, 0));
    }

    private static void digestTellsRowsInOrder() {
        YarnMill x = new YarnMill();
        x.cell(7, 8);
        x.cell(0, 1);
        x.cell(7, 9);
        x.cell(3, 5);
        x.cell(0, 2);
        due.is("0, then 3, then 7", x.digest(), digestOf(0, 0, 0, 0, 5, 1, 1, 1, 2, 5, 8, 9));
    }

    private static void digestTellsThePlanInOrder() {
        YarnMill x = Mills.withBales(1, 2, 3, 7, 8, 9);
        x.plan(2, 5, 5);
        due.is("0 5, 1 4, 2 3", x.digest(), digestOf(0, 0, 6, 3, 0, 1, 1, 0, 5, 1, 4, 2, 3));
        x.bale(5);
        due.is("it went", x.digest(), digestOf(0, 0, 7, 0, 0, 1, 1));
    }

    private static void digestWrapsAround() {
        YarnMill x = new YarnMill();
        long[] told = new long[7 + 3200];
        told[4] = 3200;
        told[5] = 1;
        told[6] = 1;
        for (int row = 0; row < 8; row++) {
            Mills.fillAlike(x, row, 400, 9000 + row);
            java.util.Arrays.fill(told, 7 + row * 400, 7 + row * 400 + 400, 9000 + row);
        }
        due.is("3200 cells", x.digest(), digestOf(told));
    }

    /** ROUNDS and NUMBERS of BALES, and MACHINES that make no other COUNT, are not told by it. */
    private static void digestOfWhatIsNotTold() {
        YarnMill x = new YarnMill();
        x.machine(2, 4, 2, 0);
        x.roller(0, 1);
        x.bale(3);
        due.is("a round of 1, a bale of 3", x.digest(), digestOf(1, 1, 1, 0, 0, 1, 1));
        YarnMill y = new YarnMill();
        y.machine(1, 1, 1, 0);
        y.roller(0, 1000);
        y.bale(10000);
        due.is("a round of 1000, a bale of 10000", y.digest(), digestOf(1, 1, 1, 0, 0, 1, 1));
    }

    /** 512 calls are answered: 400 CELLS, 111 that are FULL, and one for how many there are. */
    private static void theLastOfAllCalls() {
        YarnMill x = new YarnMill();
        for (int call = 1; call <= 511; call++) {
            due.is("call " + call, x.cell(0, 5), call <= 400 ? call : YarnMill.FULL);
        }
        due.is("call 512", x.many(4), 400);
    }
}
