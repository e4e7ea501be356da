/** Promises 1, 27 and 28: a new object, many, digest. */
public final class StateTest {
    private static final Due due = new Due();

    public static void main(String[] args) {
        newObject();
        objectsAreApart();
        manyOfEach();
        digestTellsAll();
        due.end();
    }

    private static void newObject() {
        YarnMill x = new YarnMill();
        for (int what = 0; what <= 4; what++) {
            due.is("many(" + what + ")", x.many(what), 0);
        }
        due.is("countAt(0, 0)", x.countAt(0, 0), 1);
        due.is("countAt(0, 1)", x.countAt(0, 1), 1);
        for (int row = 0; row < 8; row++) {
            due.is("about(" + row + ", 0)", x.about(row, 0), 0);
            due.is("at(" + row + ", 0)", x.at(row, 0), YarnMill.NONE);
        }
        due.is("planAt(0, 0)", x.planAt(0, 0), YarnMill.NONE);
        due.is("tries()", x.tries(), 0);
        due.is("digest()", x.digest(), 4099379502571L);
    }

    private static void objectsAreApart() {
        YarnMill x = new YarnMill();
        YarnMill y = new YarnMill();
        x.machine(1, 1, 1, 1);
        x.cell(0, 5);
        x.bale(5);
        due.is("the other's digest()", y.digest(), 4099379502571L);
    }

    private static void manyOfEach() {
        YarnMill x = new YarnMill();
        x.machine(1, 1, 1, 0);
        x.machine(1, 1, 1, 0);
        x.roller(0, 1);
        x.roller(1, 1);
        x.roller(1, 1);
        for (int v = 0; v < 8; v++) {
            x.bale(5);
        }
        x.plan(2, 5, 5);
        x.draw(0, 5, 5, 0, 0);
        x.draw(7, 6, 5, 0, 0);
        x.cell(3, 5);
        int[] want = {2, 3, 8, 4, 12};
        for (int what = 0; what <= 4; what++) {
            due.is("many(" + what + ")", x.many(what), want[what]);
        }
        for (int what : new int[] {-1, 5, Due.MAX, Due.MIN}) {
            due.is("many(" + what + ")", x.many(what), YarnMill.BAD);
        }
    }

    private static void digestTellsAll() {
        YarnMill x = new YarnMill();
        x.count(3, 7);
        x.machine(2, 5, 1, 0);
        x.roller(0, 9);
        x.cell(6, 11);
        x.cell(0, 44);
        x.cell(1, 22);
        x.cell(1, 33);
        x.bale(4);
        x.bale(8);
        x.bale(6);
        x.bale(6);
        x.plan(2, 6, 6);
        long[] told = {1, 1, 4, 2, 4, 6, 35, 44, 22, 33, 11, 0, 1, 2, 3};
        due.is("digest()", x.digest(), mixed(told));
        due.is("digest() again", x.digest(), mixed(told));
        x.bale(6);
        due.is("without a plan", x.digest(), mixed(new long[] {1, 1, 5, 0, 4, 6, 35, 44, 22, 33, 11}));
    }

    private static long mixed(long[] told) {
        long h = 149;
        for (long v : told) {
            h = 31 * h + v;
        }
        return h;
    }
}
