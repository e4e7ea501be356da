import java.util.function.Supplier;
import java.util.function.ToLongFunction;

/**
 * "Refused, changing nothing, the first of: BAD, NO, FULL, SPENT, BEYOND": each refusal but BAD (which
 * BoundsTest has) leaves the object as one that never got the call; and of two reasons the first is told.
 */
public final class OrderTest {
    private static final Due due = new Due();
    private static final int BAD_MEASURE = -1;

    public static void main(String[] args) {
        badIsAheadOfFull();
        badIsAheadOfNo();
        noIsAheadOfBeyond();
        badIsAheadOfBeyond();
        badIsAheadOfNone();
        severalBadOnes();
        fullChangesNothing();
        noChangesNothing();
        beyondChangesNothing();
        noneChangesNothing();
        askingChangesNothing();
        due.end();
    }

    private static void refused(String call, long want, Supplier<YarnMill> made, ToLongFunction<YarnMill> answer) {
        YarnMill x = made.get();
        due.is(call, answer.applyAsLong(x), want);
        due.same(call + " changes nothing", Mills.all(x), Mills.all(made.get()));
    }

    private static void ofFull(String call, long want, ToLongFunction<YarnMill> answer) {
        refused("full: " + call, want, Mills::full, answer);
    }

    private static void ofWorking(String call, long want, ToLongFunction<YarnMill> answer) {
        refused("working: " + call, want, Mills::working, answer);
    }

    private static void badIsAheadOfFull() {
        ofFull("machine(17, 1, 1, 0)", YarnMill.BAD, x -> x.machine(17, 1, 1, 0));
        ofFull("machine(1, 61, 1, 0)", YarnMill.BAD, x -> x.machine(1, 61, 1, 0));
        ofFull("machine(1, 1, 21, 0)", YarnMill.BAD, x -> x.machine(1, 1, 21, 0));
        ofFull("machine(1, 1, 1, 501)", YarnMill.BAD, x -> x.machine(1, 1, 1, 501));
        ofFull("roller(0, 0)", YarnMill.BAD, x -> x.roller(0, 0));
        ofFull("roller(5, 1001)", YarnMill.BAD, x -> x.roller(5, 1001));
        ofFull("roller(6, 1)", YarnMill.BAD, x -> x.roller(6, 1));
        ofFull("cell(0, -1)", YarnMill.BAD, x -> x.cell(0, -1));
        ofFull("cell(0, 1000001)", YarnMill.BAD, x -> x.cell(0, 1000001));
        ofFull("draw(0, 0, 1, 1, 1)", YarnMill.BAD, x -> x.draw(0, 0, 1, 1, 1));
        ofFull("draw(0, 101, 1, 1, 1)", YarnMill.BAD, x -> x.draw(0, 101, 1, 1, 1));
        ofFull("draw(0, 1, 10001, 1, 1)", YarnMill.BAD, x -> x.draw(0, 1, 10001, 1, 1));
        ofFull("draw(0, 1, 1, 2, 1)", YarnMill.BAD, x -> x.draw(0, 1, 1, 2, 1));
        ofFull("draw(0, 1, 1, 1, -1)", YarnMill.BAD, x -> x.draw(0, 1, 1, 1, -1));
        ofFull("stretch(0, 1)", YarnMill.BAD, x -> x.stretch(0, 1));
        ofFull("stretch(0, 9)", YarnMill.BAD, x -> x.stretch(0, 9));
        ofFull("bale(-1)", YarnMill.BAD, x -> x.bale(-1));
        ofFull("bale(10001)", YarnMill.BAD, x -> x.bale(10001));
    }

    private static void badIsAheadOfNo() {
        ofWorking("join(8, 8): the same", YarnMill.BAD, x -> x.join(8, 8));
        ofWorking("join(-1, -1): the same", YarnMill.BAD, x -> x.join(-1, -1));
        ofWorking("join(0, 8)", YarnMill.BAD, x -> x.join(0, 8));
        ofWorking("join(-1, 0)", YarnMill.BAD, x -> x.join(-1, 0));
        ofWorking("plan(3, 7, 6): no multiple", YarnMill.BAD, x -> x.plan(3, 7, 6));
        ofWorking("plan(3, -1, 6): no multiple", YarnMill.BAD, x -> x.plan(3, -1, 6));
        ofWorking("plan(3, 0, 10001): no multiple", YarnMill.BAD, x -> x.plan(3, 0, 10001));
        ofWorking("plan(7, 0, 1): no multiple", YarnMill.BAD, x -> x.plan(7, 0, 1));
    }

    private static void noIsAheadOfBeyond() {
        ofWorking("join(2, 2): its masses would be above 1000000", YarnMill.NO, x -> x.join(2, 2));
        ofFull("join(1, 2): unlike many", YarnMill.NO, x -> x.join(1, 2));
        refused("join(0, 1): unlike many, the first sum above 1000000", YarnMill.NO, OrderTest::heavyUnlike, x -> x.join(0, 1));
        refused("join(1, 0): unlike many, the first sum above 1000000", YarnMill.NO, OrderTest::heavyUnlike, x -> x.join(1, 0));
    }

    private static YarnMill heavyUnlike() {
        YarnMill x = Mills.withRow(1000000, 1);
        Mills.fill(x, 1, 1000000, 1, 1);
        return x;
    }

    private static void badIsAheadOfBeyond() {
        ofFull("countAt(6, 2)", YarnMill.BAD, x -> x.countAt(6, 2));
        ofFull("countAt(6, -1)", YarnMill.BAD, x -> x.countAt(6, -1));
        ofFull("countAt(7, 0)", YarnMill.BAD, x -> x.countAt(7, 0));
        ofFull("join(1, 8)", YarnMill.BAD, x -> x.join(1, 8));
        ofFull("gather(1, 21)", YarnMill.BAD, x -> x.gather(1, 21));
        ofFull("gather(1, 1)", YarnMill.BAD, x -> x.gather(1, 1));
        ofFull("fault(1, 401, 1000)", YarnMill.BAD, x -> x.fault(1, 401, 1000));
        ofFull("fault(1, 2, 1001)", YarnMill.BAD, x -> x.fault(1, 2, 1001));
    }

    private static void badIsAheadOfNone() {
        ofWorking("at(8, 400)", YarnMill.BAD, x -> x.at(8, 400));
        ofWorking("at(-1, -1)", YarnMill.BAD, x -> x.at(-1, -1));
        refused("names(0, 0, 0) without rollers", YarnMill.BAD, YarnMill::new, x -> x.names(0, 0, 0));
        refused("names(1, 1000, 0) without rollers", YarnMill.BAD, YarnMill::new, x -> x.names(1, 1000, 0));
        refused("names(1, 0, -1) without rollers", YarnMill.BAD, YarnMill::new, x -> x.names(1, 0, -1));
        refused("greatest(0, 201) without cells", YarnMill.BAD, YarnMill::new, x -> x.greatest(0, 201));
        refused("greatest(8, 2) without cells", YarnMill.BAD, YarnMill::new, x -> x.greatest(8, 2));
        ofWorking("plan(1, 6, 5): there is none", YarnMill.BAD, x -> x.plan(1, 6, 5));
    }

    private static void severalBadOnes() {
        ofWorking("count(0, 0)", YarnMill.BAD, x -> x.count(0, 0));
        ofWorking("machine(0, 0, 0, -1)", YarnMill.BAD, x -> x.machine(0, 0, 0, -1));
        ofWorking("period(3, 3, 2)", YarnMill.BAD, x -> x.period(3, 3, 2));
        ofWorking("about(8, 3)", BAD_MEASURE, x -> x.about(8, 3));
        ofWorking("wave(8, 201)", BAD_MEASURE, x -> x.wave(8, 201));
        ofWorking("places(8, 0, 101, 51, 2)", YarnMill.BAD, x -> x.places(8, 0, 101, 51, 2));
        ofWorking("cleared(-1, 1001, -1, 0)", YarnMill.BAD, x -> x.cleared(-1, 1001, -1, 0));
    }

    private static void fullChangesNothing() {
        ofFull("machine(1, 1, 1, 0)", YarnMill.FULL, x -> x.machine(1, 1, 1, 0));
        for (int k = 0; k < 6; k++) {
            int machine = k;
            ofFull("roller(" + k + ", 7)", YarnMill.FULL, x -> x.roller(machine, 7));
        }
        ofFull("cell(0, 7)", YarnMill.FULL, x -> x.cell(0, 7));
        ofFull("draw(0, 1, 7, 0, 0)", YarnMill.FULL, x -> x.draw(0, 1, 7, 0, 0));
        ofFull("draw(2, 51, 7, 0, 0): 401", YarnMill.FULL, x -> x.draw(2, 51, 7, 0, 0));
        ofFull("stretch(0, 2)", YarnMill.FULL, x -> x.stretch(0, 2));
        ofFull("stretch(2, 2): 700", YarnMill.FULL, x -> x.stretch(2, 2));
        ofFull("bale(7)", YarnMill.FULL, x -> x.bale(7));
    }

    private static void noChangesNothing() {
        ofWorking("join(0, 0): the same", YarnMill.NO, x -> x.join(0, 0));
        ofWorking("join(4, 4): the same, empty", YarnMill.NO, x -> x.join(4, 4));
        ofWorking("join(0, 2): 8 and 4", YarnMill.NO, x -> x.join(0, 2));
        ofWorking("join(2, 0): 4 and 8", YarnMill.NO, x -> x.join(2, 0));
        ofWorking("join(4, 7): 0 and 1", YarnMill.NO, x -> x.join(4, 7));
        ofWorking("join(7, 4): 1 and 0", YarnMill.NO, x -> x.join(7, 4));
    }

    private static void beyondChangesNothing() {
        ofFull("countAt(6, 0)", YarnMill.BEYOND, x -> x.countAt(6, 0));
        ofFull("countAt(6, 1)", YarnMill.BEYOND, x -> x.countAt(6, 1));
        ofWorking("join(2, 3): the third sum", YarnMill.BEYOND, x -> x.join(2, 3));
        ofWorking("gather(2, 2): the second sum", YarnMill.BEYOND, x -> x.gather(2, 2));
        ofWorking("gather(3, 20): the one sum", YarnMill.BEYOND, x -> x.gather(3, 20));
        ofWorking("fault(2, 2, 1000): the second period", YarnMill.BEYOND, x -> x.fault(2, 2, 1000));
        ofFull("gather(1, 20): the last sum", YarnMill.BEYOND, x -> x.gather(1, 20));
        ofFull("fault(1, 2, 1000): the last period", YarnMill.BEYOND, x -> x.fault(1, 2, 1000));
    }

    private static void noneChangesNothing() {
        ofWorking("names(1000000, 0, 0)", YarnMill.NONE, x -> x.names(1000000, 0, 0));
        ofWorking("at(0, 8)", YarnMill.NONE, x -> x.at(0, 8));
        ofWorking("greatest(7, 200)", YarnMill.NONE, x -> x.greatest(7, 200));
        ofWorking("planAt(2, 0)", YarnMill.NONE, x -> x.planAt(2, 0));
        ofWorking("planAt(0, 2)", YarnMill.NONE, x -> x.planAt(0, 2));
    }

    private static void askingChangesNothing() {
        ofWorking("countAt(0, 0)", 7, x -> x.countAt(0, 0));
        ofWorking("period(2, 0, 0)", 25, x -> x.period(2, 0, 0));
        ofWorking("names(25, 0, 0)", 16, x -> x.names(25, 0, 0));
        ofWorking("at(0, 7)", 80, x -> x.at(0, 7));
        ofWorking("about(0, 1)", 360, x -> x.about(0, 1));
        ofWorking("wave(7, 200)", 0, x -> x.wave(7, 200));
        ofWorking("greatest(0, 2)", 2, x -> x.greatest(0, 2));
        ofWorking("places(0, 50, 50, 1, 0)", 1, x -> x.places(0, 50, 50, 1, 0));
        ofWorking("planAt(1, 1)", 3, x -> x.planAt(1, 1));
        ofWorking("tries()", 2, x -> x.tries());
        ofWorking("many(4)", 25, x -> x.many(4));
    }
}
