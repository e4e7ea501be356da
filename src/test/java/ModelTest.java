import java.util.Random;

/** Long runs of drawn calls, ordinary, at the edges and wrong, each answered as YarnModel answers it. */
public final class ModelTest {
    private static final int RUNS = 800;
    // An object's answers are free behind this one; a turn of the loop takes up to three.
    private static final int MOST_CALLS = 512;
    private static final int MOST_OF_A_TURN = 3;
    private static final int[] ODD = {Due.MIN, -2, -1, 0, 1, 2, Due.MAX, 1000000007};

    private final Due due = new Due();
    private final Random random = new Random(28);
    private final boolean[] kindsMet = new boolean[27];
    private YarnMill mill;
    private YarnModel model;
    private int row;
    private int calls;

    public static void main(String[] args) {
        new ModelTest().run();
    }

    private void run() {
        for (int run = 0; run < RUNS; run++) {
            mill = new YarnMill();
            model = new YarnModel();
            calls = 0;
            while (calls + MOST_OF_A_TURN <= MOST_CALLS) {
                oneCall("run " + run + ", call " + calls + ": ", run % 4, run % 8 < 4);
            }
        }
        for (int kind = 0; kind < kindsMet.length; kind++) {
            due.holds("kind " + kind + " was met", kindsMet[kind]);
        }
        due.end();
    }

    /** Mostly low .. high, now and then at or just outside an end, or far off. */
    private int within(int low, int high) {
        int way = random.nextInt(40);
        if (way == 0) return ODD[random.nextInt(ODD.length)];
        if (way == 1) return low - 1;
        if (way == 2) return high + 1;
        if (way <= 4) return low;
        if (way <= 6) return high;
        return (int) (low + Math.floorMod(random.nextLong(), Math.max((long) high - low, 0) + 1));
    }

    private int mass() {
        switch (random.nextInt(4)) {
            case 0: return within(0, 1000000);
            case 1: return within(0, 3);
            case 2: return random.nextInt(2) * 1000000;
            default: return within(80, 120);
        }
    }

    private void answers(String call, long got, long want) {
        calls++;
        due.is(call, got, want);
    }

    /** Always with a digest() behind it, to find where a run goes wrong, or seldom, to have longer runs. */
    private void oneCall(String at, int bent, boolean alwaysDigest) {
        int kind;
        switch (random.nextInt(3) == 0 ? random.nextInt(4) : bent) {
            case 0: kind = random.nextInt(7); break;
            case 1: kind = 7 + random.nextInt(13); break;
            case 2: kind = 20 + random.nextInt(5); break;
            default: kind = random.nextInt(27); break;
        }
        kindsMet[kind] = true;
        row = within(0, bent == 1 ? 2 : 7);
        if (kind < 7) lineCall(at, kind);
        else if (kind < 14) changeRow(at, kind);
        else if (kind < 20) askRow(at, kind);
        else baleCall(at, kind);
        if (alwaysDigest || random.nextInt(16) == 0) {
            answers(at + "digest()", mill.digest(), model.digest());
        }
    }

    private void lineCall(String at, int kind) {
        int a = within(0, 5);
        int b = within(0, 2);
        int what = within(0, 1);
        switch (kind) {
            case 0:
                int above = within(1, 10000);
                int below = within(1, 10000);
                answers(at + "count", mill.count(above, below), model.count(above, below));
                break;
            case 1:
                int[] m = {within(1, 16), within(1, 60), within(1, 20), within(0, 500)};
                answers(at + "machine", mill.machine(m[0], m[1], m[2], m[3]), model.machine(m[0], m[1], m[2], m[3]));
                break;
            case 2:
                int round = within(1, 1000);
                answers(at + "roller", mill.roller(a, round), model.roller(a, round));
                break;
            case 3:
                if (random.nextInt(6) == 0) answers(at + "clear", mill.clear(), model.clear());
                break;
            case 4: answers(at + "countAt", mill.countAt(a + 1, what), model.countAt(a + 1, what)); break;
            case 5: answers(at + "period", mill.period(a, b, what), model.period(a, b, what)); break;
            default:
                int p = within(1, random.nextBoolean() ? 1000 : 1000000);
                int tolerance = within(0, 999);
                answers(at + "names", mill.names(p, tolerance, b), model.names(p, tolerance, b));
        }
    }

    private void changeRow(String at, int kind) {
        switch (kind) {
            case 7:
                int mass = mass();
                answers(at + "cell", mill.cell(row, mass), model.cell(row, mass));
                break;
            case 8:
                int m = within(0, 10000);
                int[] d = {within(1, 100), within(0, m), within(0, Due.MAX - 1)};
                answers(at + "draw", mill.draw(row, d[0], m, d[1], d[2]), model.draw(row, d[0], m, d[1], d[2]));
                break;
            case 9:
                if (random.nextInt(4) == 0) answers(at + "empty", mill.empty(row), model.empty(row));
                break;
            case 10:
                int other = within(0, 7);
                answers(at + "join", mill.join(row, other), model.join(row, other));
                break;
            case 11:
                int by = within(2, 8);
                answers(at + "stretch", mill.stretch(row, by), model.stretch(row, by));
                break;
            case 12:
                int g = within(2, random.nextBoolean() ? 3 : 20);
                answers(at + "gather", mill.gather(row, g), model.gather(row, g));
                break;
            default:
                int p = within(2, random.nextBoolean() ? 20 : 400);
                int s = within(0, 1000);
                answers(at + "fault", mill.fault(row, p, s), model.fault(row, p, s));
        }
    }

    private void askRow(String at, int kind) {
        int thick = within(1, random.nextBoolean() ? 50 : 1000);
        int thin = within(0, 100);
        int l = within(1, random.nextBoolean() ? 3 : 50);
        switch (kind) {
            case 14:
                int i = within(0, 399);
                answers(at + "at", mill.at(row, i), model.at(row, i));
                break;
            case 15:
                int what = within(0, 2);
                answers(at + "about", mill.about(row, what), model.about(row, what));
                break;
            case 16:
                int p = within(2, 200);
                answers(at + "wave", mill.wave(row, p), model.wave(row, p));
                break;
            case 17:
                int most = within(2, random.nextInt(8) == 0 ? 200 : 20);
                answers(at + "greatest", mill.greatest(row, most), model.greatest(row, most));
                break;
            case 18:
                int sort = within(0, 1);
                answers(at + "places", mill.places(row, thick, thin, l, sort), model.places(row, thick, thin, l, sort));
                break;
            default:
                answers(at + "cleared", mill.cleared(row, thick, thin, l), model.cleared(row, thick, thin, l));
        }
    }

    private void baleCall(String at, int kind) {
        switch (kind) {
            case 20:
                int v = within(0, random.nextBoolean() ? 20 : 10000);
                answers(at + "bale", mill.bale(v), model.bale(v));
                break;
            case 21:
                if (random.nextInt(12) == 0) answers(at + "clearBales", mill.clearBales(), model.clearBales());
                break;
            case 22:
                int n = within(1, 6);
                int low = within(0, random.nextBoolean() ? 10 : 6000);
                int high = within(Math.max(low, 0), 10000);
                answers(at + "plan", mill.plan(n, low, high), model.plan(n, low, high));
                answers(at + "tries behind plan", mill.tries(), model.tries());
                break;
            case 23:
                int k = within(0, 11);
                int i = within(0, 5);
                answers(at + "planAt", mill.planAt(k, i), model.planAt(k, i));
                break;
            case 24: answers(at + "tries", mill.tries(), model.tries()); break;
            case 25:
                int what = within(0, 4);
                answers(at + "many", mill.many(what), model.many(what));
                break;
            default: answers(at + "digest", mill.digest(), model.digest());
        }
    }
}
