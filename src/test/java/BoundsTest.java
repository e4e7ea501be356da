/**
 * For each number that a call takes: the least and the greatest are taken; the one below, the one
 * above and the farthest ones are BAD, and leave the object as one that never got the call.
 */
public final class BoundsTest {
    private static final Due due = new Due();
    private static final int BAD_MEASURE = -1;

    private interface Call {
        long answer(YarnMill x, int v);
    }

    public static void main(String[] args) {
        lineCalls();
        lineAsked();
        rowNumbers();
        rowChanges();
        rowAsked();
        placesAsked();
        baleCalls();
        due.end();
    }

    private static void bounds(String what, int low, int high, Call call) {
        bounds(what, low, high, YarnMill.BAD, call);
    }

    private static void bounds(String what, int low, int high, int bad, Call call) {
        taken(what, low, bad, call);
        taken(what, high, bad, call);
        refused(what, Due.MIN, bad, call);
        refused(what, low - 1, bad, call);
        if (high < Due.MAX) {
            refused(what, high + 1, bad, call);
            refused(what, Due.MAX, bad, call);
        }
    }

    /** NONE is an answer and no refusal, but for about() and wave(), whose BAD it is. */
    private static void taken(String what, int v, int bad, Call call) {
        long got = call.answer(Mills.working(), v);
        due.holds(what + " " + v + " is taken, not " + got, bad == BAD_MEASURE ? got >= 0 : got >= YarnMill.NONE);
    }

    private static void refused(String what, int v, int bad, Call call) {
        YarnMill x = Mills.working();
        due.is(what + " " + v, call.answer(x, v), bad);
        due.same(what + " " + v + " changes nothing", Mills.all(x), Mills.all(Mills.working()));
    }

    private static void lineCalls() {
        bounds("count: above", 1, 10000, (x, v) -> x.count(v, 1));
        bounds("count: below", 1, 10000, (x, v) -> x.count(1, v));
        bounds("machine: doublings", 1, 16, (x, v) -> x.machine(v, 1, 1, 0));
        bounds("machine: above", 1, 60, (x, v) -> x.machine(1, v, 1, 0));
        bounds("machine: below", 1, 20, (x, v) -> x.machine(1, 1, v, 0));
        bounds("machine: loss", 0, 500, (x, v) -> x.machine(1, 1, 1, v));
        bounds("roller: machine", 0, 2, (x, v) -> x.roller(v, 1));
        bounds("roller: round", 1, 1000, (x, v) -> x.roller(0, v));
    }

    private static void lineAsked() {
        bounds("countAt: k", 0, 3, (x, v) -> x.countAt(v, 0));
        bounds("countAt: what", 0, 1, (x, v) -> x.countAt(3, v));
        bounds("period: machine", 0, 2, (x, v) -> x.period(v, 0, 0));
        bounds("period: roller of two", 0, 1, (x, v) -> x.period(0, v, 0));
        bounds("period: roller of one", 0, 0, (x, v) -> x.period(1, v, 0));
        bounds("period: what", 0, 1, (x, v) -> x.period(0, 0, v));
        bounds("names: p", 1, 1000000, (x, v) -> x.names(v, 0, 0));
        bounds("names: tolerance", 0, 999, (x, v) -> x.names(25, v, 0));
        bounds("names: i", 0, Due.MAX, (x, v) -> x.names(25, 0, v));
        bounds("many: what", 0, 4, (x, v) -> x.many(v));
    }

    private static void rowNumbers() {
        bounds("cell: row", 0, 7, (x, v) -> x.cell(v, 1));
        bounds("draw: row", 0, 7, (x, v) -> x.draw(v, 1, 1, 1, 1));
        bounds("empty: row", 0, 7, (x, v) -> x.empty(v));
        bounds("at: row", 0, 7, (x, v) -> x.at(v, 0));
        bounds("stretch: row", 0, 7, (x, v) -> x.stretch(v, 2));
        bounds("gather: row", 0, 7, (x, v) -> x.gather(v, 2));
        bounds("fault: row", 0, 7, (x, v) -> x.fault(v, 2, 2));
        bounds("about: row", 0, 7, BAD_MEASURE, (x, v) -> x.about(v, 0));
        bounds("wave: row", 0, 7, BAD_MEASURE, (x, v) -> x.wave(v, 2));
        bounds("greatest: row", 0, 7, (x, v) -> x.greatest(v, 2));
        bounds("places: row", 0, 7, (x, v) -> x.places(v, 1, 1, 1, 0));
        bounds("cleared: row", 0, 7, (x, v) -> x.cleared(v, 1, 1, 1));
        bounds("join: row", 0, 7, (x, v) -> emptied(x, v).join(v, 4));
        bounds("join: other", 0, 7, (x, v) -> emptied(x, v).join(4, v));
    }

    /** ROW 4 is empty: ROWS 0 and 7, which are to be taken, must be so too; where a call is due to be refused nothing goes. */
    private static YarnMill emptied(YarnMill x, int row) {
        if (row == 0 || row == 7) {
            x.empty(row);
        }
        return x;
    }

    private static void rowChanges() {
        bounds("cell: mass", 0, 1000000, (x, v) -> x.cell(0, v));
        bounds("draw: n", 1, 100, (x, v) -> x.draw(0, v, 1, 1, 1));
        bounds("draw: m", 0, 10000, (x, v) -> x.draw(0, 1, v, 0, 1));
        bounds("draw: w of m 9", 0, 9, (x, v) -> x.draw(0, 1, 9, v, 1));
        bounds("draw: w of m 10000", 0, 10000, (x, v) -> x.draw(0, 1, 10000, v, 1));
        bounds("draw: w of m 0", 0, 0, (x, v) -> x.draw(0, 1, 0, v, 1));
        bounds("draw: seed", 0, Due.MAX, (x, v) -> x.draw(0, 1, 1, 1, v));
        bounds("stretch: d", 2, 8, (x, v) -> x.stretch(0, v));
        bounds("gather: g", 2, 20, (x, v) -> x.gather(0, v));
        bounds("fault: p", 2, 400, (x, v) -> x.fault(0, v, 1000));
        bounds("fault: s", 0, 1000, (x, v) -> x.fault(0, 2, v));
        bounds("cleared: thick", 1, 1000, (x, v) -> x.cleared(0, v, 0, 1));
        bounds("cleared: thin", 0, 100, (x, v) -> x.cleared(0, 1, v, 1));
        bounds("cleared: l", 1, 50, (x, v) -> x.cleared(0, 1, 0, v));
    }

    private static void rowAsked() {
        bounds("about: what", 0, 2, BAD_MEASURE, (x, v) -> x.about(0, v));
        bounds("wave: p", 2, 200, BAD_MEASURE, (x, v) -> x.wave(0, v));
        bounds("greatest: most", 2, 200, (x, v) -> x.greatest(0, v));
    }

    private static void placesAsked() {
        for (int sort = 0; sort <= 1; sort++) {
            int asked = sort;
            bounds("places: thick", 1, 1000, (x, v) -> x.places(0, v, 0, 1, asked));
            bounds("places: thin", 0, 100, (x, v) -> x.places(0, 1, v, 1, asked));
            bounds("places: l", 1, 50, (x, v) -> x.places(0, 1, 0, v, asked));
        }
        bounds("places: sort", 0, 1, (x, v) -> x.places(0, 1, 0, 1, v));
    }

    private static void baleCalls() {
        bounds("bale: v", 0, 10000, (x, v) -> x.bale(v));
        bounds("plan: n", 1, 6, (x, v) -> withoutBales(x, v).plan(v, 0, 10000));
        bounds("plan: low", 0, 10000, (x, v) -> x.plan(2, v, 10000));
        bounds("plan: low up to high", 0, 6, (x, v) -> x.plan(2, v, 6));
        bounds("plan: high", 0, 10000, (x, v) -> x.plan(2, 0, v));
        bounds("plan: high from low on", 6, 10000, (x, v) -> x.plan(2, 6, v));
    }

    /** The many of 4 BALES is no multiple of 6: where n is to be taken they go. */
    private static YarnMill withoutBales(YarnMill x, int n) {
        if (n == 1 || n == 6) {
            x.clearBales();
        }
        return x;
    }
}
