/**
 * A spinning mill as ../shared/DOC.md tells it: a line of machines, rows of mass, and bales picked
 * into laydowns. Each public method bears its promise's name; the three classes inside do the work.
 */
public final class YarnMill {
    public static final int NONE = -1, BAD = -2, NO = -3, FULL = -4, SPENT = -5, BEYOND = -6;

    // about() and wave() tell BAD as -1.
    private static final int BAD_MEASURE = -1;
    private static final int ROWS = 8;

    private final Line line;
    private final Row[] rows;
    private final Store store;

    public YarnMill() {
        line = new Line();
        rows = new Row[ROWS];
        for (int r = 0; r < ROWS; r++) {
            rows[r] = new Row();
        }
        store = new Store();
    }

    public int count(int above, int below) {
        return line.setFirst(above, below);
    }

    public int machine(int doublings, int above, int below, int loss) {
        return line.addMachine(doublings, above, below, loss);
    }

    public int roller(int machine, int round) {
        return line.addRoller(machine, round);
    }

    public int clear() {
        return line.removeAll();
    }

    public long countAt(int k, int what) {
        return line.tellCount(k, what);
    }

    public long period(int machine, int roller, int what) {
        return line.tellPeriod(machine, roller, what);
    }

    public int names(int p, int tolerance, int i) {
        return line.findNear(p, tolerance, i);
    }

    // ---- rows

    public int cell(int row, int mass) {
        Row r = rowOrNull(row);
        return r == null ? BAD : r.addCell(mass);
    }

    public int draw(int row, int n, int m, int w, int seed) {
        Row r = rowOrNull(row);
        return r == null ? BAD : r.addDrawn(n, m, w, seed);
    }

    public int empty(int row) {
        Row r = rowOrNull(row);
        return r == null ? BAD : r.removeAll();
    }

    public int at(int row, int i) {
        Row r = rowOrNull(row);
        return r == null ? BAD : r.massAt(i);
    }

    public int join(int row, int other) {
        Row r = rowOrNull(row);
        Row o = rowOrNull(other);
        if (r == null || o == null) {
            return BAD;
        }
        return row == other ? NO : r.addRow(o);
    }

    public int stretch(int row, int d) {
        Row r = rowOrNull(row);
        return r == null ? BAD : r.stretchBy(d);
    }

    public int gather(int row, int g) {
        Row r = rowOrNull(row);
        return r == null ? BAD : r.gatherBy(g);
    }

    public int fault(int row, int p, int s) {
        Row r = rowOrNull(row);
        return r == null ? BAD : r.faultBy(p, s);
    }

    public long about(int row, int what) {
        Row r = rowOrNull(row);
        return r == null ? BAD_MEASURE : r.measure(what);
    }

    public long wave(int row, int p) {
        Row r = rowOrNull(row);
        return r == null ? BAD_MEASURE : r.waveAt(p);
    }

    public int greatest(int row, int most) {
        Row r = rowOrNull(row);
        return r == null ? BAD : r.greatestUpTo(most);
    }

    public int places(int row, int thick, int thin, int l, int sort) {
        Row r = rowOrNull(row);
        return r == null ? BAD : r.countPlaces(thick, thin, l, sort);
    }

    public int cleared(int row, int thick, int thin, int l) {
        Row r = rowOrNull(row);
        return r == null ? BAD : r.removePlaces(thick, thin, l);
    }

    // ---- bales

    public int bale(int v) {
        return store.addBale(v);
    }

    public int clearBales() {
        return store.removeAll();
    }

    public int plan(int n, int low, int high) {
        return store.makePlan(n, low, high);
    }

    public int planAt(int k, int i) {
        return store.planned(k, i);
    }

    public int tries() {
        return store.tried;
    }

    public int many(int what) {
        switch (what) {
            case 0: return line.size;
            case 1: return line.countRollers();
            case 2: return store.size;
            case 3: return store.laydowns;
            case 4: return countCells();
            default: return BAD;
        }
    }

    public long digest() {
        long h = 149;
        for (int what = 0; what <= 4; what++) {
            h = 31 * h + many(what);
        }
        h = 31 * h + line.tellCount(line.size, 0);
        h = 31 * h + line.tellCount(line.size, 1);
        for (int r = 0; r < ROWS; r++) {
            h = rows[r].mixInto(h);
        }
        return store.mixInto(h);
    }

    private int countCells() {
        int cells = 0;
        for (int r = 0; r < ROWS; r++) {
            cells += rows[r].size;
        }
        return cells;
    }

    /** Null where there is no such ROW, so that one test covers the index and the reference. */
    private Row rowOrNull(int row) {
        return within(row, 0, ROWS - 1) ? rows[row] : null;
    }

    private static boolean within(long v, long low, long high) {
        return v >= low && v <= high;
    }

    /** Above and below are 1 or more and always stand in lowest terms. */
    private static final class Fraction {
        // Euclid needs under 93 steps for any two longs.
        private static final int MOST_STEPS = 100;

        long above = 1;
        long below = 1;

        void set(long newAbove, long newBelow) {
            above = newAbove;
            below = newBelow;
            reduce();
        }

        void times(long byAbove, long byBelow) {
            set(above * byAbove, below * byBelow);
        }

        private void reduce() {
            long divisor = commonDivisor(above, below);
            if (divisor > 1) {
                above /= divisor;
                below /= divisor;
            }
        }

        private static long commonDivisor(long a, long b) {
            long x = a;
            long y = b;
            for (int step = 0; step < MOST_STEPS && y != 0; step++) {
                long rest = x % y;
                x = y;
                y = rest;
            }
            return x;
        }
    }

    private static final class Machine {
        static final int MOST_ROLLERS = 3;

        int doublings;
        int above;
        int below;
        int loss;
        int rollers;
        final int[] rounds = new int[MOST_ROLLERS];
    }

    /** THE LINE. Its six MACHINES are made once and set anew, so that no call makes an object. */
    private static final class Line {
        private static final int MOST_MACHINES = 6;
        private static final long MOST_COUNT = 1000000000000L;

        int size;
        private int firstAbove = 1;
        private int firstBelow = 1;
        private final Machine[] machines = new Machine[MOST_MACHINES];
        // What the latest reckoning told: a COUNT or a PERIOD.
        private final Fraction told = new Fraction();

        Line() {
            for (int k = 0; k < MOST_MACHINES; k++) {
                machines[k] = new Machine();
            }
        }

        int setFirst(int above, int below) {
            if (!within(above, 1, 10000) || !within(below, 1, 10000)) {
                return BAD;
            }
            firstAbove = above;
            firstBelow = below;
            return 1;
        }

        int addMachine(int doublings, int above, int below, int loss) {
            if (!within(doublings, 1, 16) || !within(above, 1, 60)
                    || !within(below, 1, 20) || !within(loss, 0, 500)) {
                return BAD;
            }
            if (size >= MOST_MACHINES) {
                return FULL;
            }
            Machine added = machines[size];
            added.doublings = doublings;
            added.above = above;
            added.below = below;
            added.loss = loss;
            added.rollers = 0;
            size++;
            return size - 1;
        }

        int addRoller(int machine, int round) {
            if (!within(machine, 0, size - 1) || !within(round, 1, 1000)) {
                return BAD;
            }
            Machine m = machines[machine];
            if (m.rollers >= Machine.MOST_ROLLERS) {
                return FULL;
            }
            m.rounds[m.rollers] = round;
            m.rollers++;
            return m.rollers - 1;
        }

        int removeAll() {
            int had = size;
            size = 0;
            return had;
        }

        int countRollers() {
            int rollers = 0;
            for (int k = 0; k < size; k++) {
                rollers += machines[k].rollers;
            }
            return rollers;
        }

        long tellCount(int k, int what) {
            if (!within(k, 0, size) || !within(what, 0, 1)) {
                return BAD;
            }
            return reckonCount(k) ? toldPart(what) : BEYOND;
        }

        long tellPeriod(int machine, int roller, int what) {
            if (!within(machine, 0, size - 1) || !within(what, 0, 1)
                    || !within(roller, 0, machines[machine].rollers - 1)) {
                return BAD;
            }
            reckonPeriod(machine, roller);
            return toldPart(what);
        }

        int findNear(int p, int tolerance, int i) {
            if (!within(p, 1, 1000000) || !within(tolerance, 0, 999) || i < 0) {
                return BAD;
            }
            int ahead = 0;
            for (int k = 0; k < size; k++) {
                for (int r = 0; r < machines[k].rollers; r++) {
                    if (!isNear(k, r, p, tolerance)) {
                        continue;
                    }
                    if (ahead == i) {
                        return 8 * k + r;
                    }
                    ahead++;
                }
            }
            return NONE;
        }

        private long toldPart(int what) {
            return what == 0 ? told.above : told.below;
        }

        /** False where this COUNT or one ahead of it is BEYOND; so far no product leaves a long. */
        private boolean reckonCount(int k) {
            told.set(firstAbove, firstBelow);
            for (int j = 0; j < k; j++) {
                Machine m = machines[j];
                told.times((long) m.doublings * (1000 - m.loss) * m.below, 1000L * m.above);
                if (told.above > MOST_COUNT || told.below > MOST_COUNT) {
                    return false;
                }
            }
            return true;
        }

        private void reckonPeriod(int machine, int roller) {
            told.set(machines[machine].rounds[roller], 1);
            for (int k = machine + 1; k < size; k++) {
                told.times(machines[k].above, machines[k].below);
            }
        }

        /** Multiplied by the PERIOD's below, so that nothing is cut. */
        private boolean isNear(int machine, int roller, int p, int tolerance) {
            reckonPeriod(machine, roller);
            long around = told.below * p;
            return within(1000 * told.above, around * (1000 - tolerance), around * (1000 + tolerance));
        }
    }

    /** A ROW. Every change is made in place, behind a look whether all of it may be made. */
    private static final class Row {
        private static final int MOST_CELLS = 400;
        private static final int MOST_MASS = 1000000;
        private static final int LOWEST_31_BITS = 0x7fffffff;

        int size;
        private final int[] cells = new int[MOST_CELLS];

        int addCell(int mass) {
            if (!within(mass, 0, MOST_MASS)) {
                return BAD;
            }
            if (size >= MOST_CELLS) {
                return FULL;
            }
            cells[size] = mass;
            size++;
            return size;
        }

        int addDrawn(int n, int m, int w, int seed) {
            if (!within(n, 1, 100) || !within(m, 0, 10000) || !within(w, 0, m) || seed < 0) {
                return BAD;
            }
            if (size + n > MOST_CELLS) {
                return FULL;
            }
            int s = seed;
            for (int i = 0; i < n; i++) {
                // An int's wrap-around leaves the lowest 31 bits right.
                s = (s * 1103515245 + 12345) & LOWEST_31_BITS;
                cells[size + i] = m + s / 65536 % (2 * w + 1) - w;
            }
            size += n;
            return size;
        }

        int removeAll() {
            int had = size;
            size = 0;
            return had;
        }

        int massAt(int i) {
            return within(i, 0, size - 1) ? cells[i] : NONE;
        }

        int addRow(Row other) {
            if (other.size != size) {
                return NO;
            }
            for (int i = 0; i < size; i++) {
                if (cells[i] + other.cells[i] > MOST_MASS) {
                    return BEYOND;
                }
            }
            for (int i = 0; i < size; i++) {
                cells[i] += other.cells[i];
            }
            return size;
        }

        int stretchBy(int d) {
            if (!within(d, 2, 8)) {
                return BAD;
            }
            if (size * d > MOST_CELLS) {
                return FULL;
            }
            // From the last CELL on, so that none is written over before it is shared out.
            for (int i = size - 1; i >= 0; i--) {
                int share = cells[i] / d;
                int rest = cells[i] % d;
                for (int j = 0; j < d; j++) {
                    cells[i * d + j] = j < rest ? share + 1 : share;
                }
            }
            size *= d;
            return size;
        }

        int gatherBy(int g) {
            if (!within(g, 2, 20)) {
                return BAD;
            }
            for (int from = 0; from < size; from += g) {
                if (sumOf(from, g) > MOST_MASS) {
                    return BEYOND;
                }
            }
            int gathered = 0;
            for (int from = 0; from < size; from += g) {
                cells[gathered] = sumOf(from, g);
                gathered++;
            }
            size = gathered;
            return size;
        }

        int faultBy(int p, int s) {
            if (!within(p, 2, MOST_CELLS) || !within(s, 0, 1000)) {
                return BAD;
            }
            int half = p / 2;
            for (int from = 0; from + p <= size; from += p) {
                for (int i = from; i < from + half; i++) {
                    if (cells[i + half] + given(i, s) > MOST_MASS) {
                        return BEYOND;
                    }
                }
            }
            int all = 0;
            for (int from = 0; from + p <= size; from += p) {
                for (int i = from; i < from + half; i++) {
                    int part = given(i, s);
                    cells[i] -= part;
                    cells[i + half] += part;
                    all += part;
                }
            }
            return all;
        }

        long measure(int what) {
            switch (what) {
                case 0: return size;
                case 1: return sumOf(0, size);
                case 2: return unevenness();
                default: return BAD_MEASURE;
            }
        }

        long waveAt(int p) {
            if (!within(p, 2, 200)) {
                return BAD_MEASURE;
            }
            int taken = size / p * p;
            long sum = 0;
            long squares = 0;
            for (int place = 0; place < p; place++) {
                long z = 0;
                for (int i = place; i < taken; i += p) {
                    z += cells[i];
                }
                sum += z;
                squares += z * z;
            }
            return p * squares - sum * sum;
        }

        int greatestUpTo(int most) {
            if (!within(most, 2, 200)) {
                return BAD;
            }
            int best = NONE;
            long bestWave = 0;
            long bestBy = 1;
            for (int p = 2; p <= most && 2 * p <= size; p++) {
                long wave = waveAt(p);
                long by = (long) (size / p * p) * p;
                if (best == NONE || isGreater(wave, by, bestWave, bestBy)) {
                    best = p;
                    bestWave = wave;
                    bestBy = by;
                }
            }
            return best;
        }

        int countPlaces(int thick, int thin, int l, int sort) {
            if (!isLaw(thick, thin, l) || !within(sort, 0, 1)) {
                return BAD;
            }
            boolean isThick = sort == 0;
            long bound = mean() * (isThick ? 100 + thick : 100 - thin);
            int found = 0;
            int run;
            for (int i = 0; i < size; i += Math.max(run, 1)) {
                run = runFrom(i, bound, isThick);
                if (run >= l) {
                    found++;
                }
            }
            return found;
        }

        int removePlaces(int thick, int thin, int l) {
            if (!isLaw(thick, thin, l)) {
                return BAD;
            }
            long thickFrom = mean() * (100 + thick);
            long thinTo = mean() * (100 - thin);
            int kept = 0;
            int splices = 0;
            boolean gap = false;
            int place;
            for (int i = 0; i < size; i += Math.max(place, 1)) {
                place = placeFrom(i, thickFrom, thinTo, l);
                if (place == 0) {
                    // A gap counts once CELLS are kept on both sides of it.
                    splices += gap && kept > 0 ? 1 : 0;
                    cells[kept] = cells[i];
                    kept++;
                }
                gap = place > 0;
            }
            size = kept;
            return splices;
        }

        long mixInto(long digest) {
            long h = digest;
            for (int i = 0; i < size; i++) {
                h = 31 * h + cells[i];
            }
            return h;
        }

        /** Up to n CELLS; 400 of the greatest mass still fit an int. */
        private int sumOf(int from, int n) {
            int to = Math.min(from + n, size);
            int sum = 0;
            for (int i = from; i < to; i++) {
                sum += cells[i];
            }
            return sum;
        }

        private int given(int i, int s) {
            return (int) ((long) cells[i] * s / 1000);
        }

        private long unevenness() {
            long squares = 0;
            for (int i = 0; i < size; i++) {
                squares += (long) cells[i] * cells[i];
            }
            long sum = sumOf(0, size);
            return size * squares - sum * sum;
        }

        /** a by b above c by d: the whole parts first, as the cross products would leave a long. */
        private static boolean isGreater(long a, long b, long c, long d) {
            if (b <= 0 || d <= 0) {
                return false;
            }
            if (a / b != c / d) {
                return a / b > c / d;
            }
            return a % b * d > c % d * b;
        }

        private static boolean isLaw(int thick, int thin, int l) {
            return within(thick, 1, 1000) && within(thin, 0, 100) && within(l, 1, 50);
        }

        private long mean() {
            return size > 0 ? sumOf(0, size) / size : 0;
        }

        /** How long the PLACE is that begins at CELL i, THICK ones first; 0 where none begins. */
        private int placeFrom(int i, long thickFrom, long thinTo, int l) {
            int thickRun = runFrom(i, thickFrom, true);
            if (thickRun >= l) {
                return thickRun;
            }
            int thinRun = runFrom(i, thinTo, false);
            return thinRun >= l ? thinRun : 0;
        }

        private int runFrom(int from, long bound, boolean isThick) {
            int i = from;
            while (i < size && (isThick ? cells[i] * 100L >= bound : cells[i] * 100L <= bound)) {
                i++;
            }
            return i - from;
        }
    }

    /** The BALES and THE PLAN, which the search writes into order, LAYDOWN behind LAYDOWN. */
    private static final class Store {
        private static final int MOST_BALES = 12;
        private static final int MOST_NUMBER = 10000;
        private static final int MOST_TRIES = 100000;

        int size;
        int laydowns;
        int tried;
        private int each = 1;
        private int leastSum;
        private int mostSum;
        private boolean spent;
        private final int[] numbers = new int[MOST_BALES];
        private final int[] order = new int[MOST_BALES];

        int addBale(int v) {
            if (!within(v, 0, MOST_NUMBER)) {
                return BAD;
            }
            if (size >= MOST_BALES) {
                return FULL;
            }
            laydowns = 0;
            numbers[size] = v;
            size++;
            return size - 1;
        }

        int removeAll() {
            int had = size;
            size = 0;
            laydowns = 0;
            return had;
        }

        int makePlan(int n, int low, int high) {
            if (!within(n, 1, 6) || !within(low, 0, MOST_NUMBER) || !within(high, low, MOST_NUMBER)) {
                return BAD;
            }
            laydowns = 0;
            if (size % n != 0) {
                return NO;
            }
            each = n;
            leastSum = n * low;
            mostSum = n * high;
            tried = 0;
            spent = false;
            if (!openLaydown(0, 0)) {
                return spent ? SPENT : NONE;
            }
            laydowns = size / n;
            return laydowns;
        }

        int planned(int k, int i) {
            return within(k, 0, laydowns - 1) && within(i, 0, each - 1) ? order[k * each + i] : NONE;
        }

        long mixInto(long digest) {
            long h = digest;
            for (int i = 0; i < laydowns * each; i++) {
                h = 31 * h + order[i];
            }
            return h;
        }

        /**
         * The search: openLaydown and fillLaydown call one another, placed being the depth, which
         * size keeps at 12 or less. A bit of used is a BALE that stands in order ahead of placed.
         */
        private boolean openLaydown(int placed, int used) {
            if (placed >= size) {
                return true;
            }
            int first = 0;
            while (first < size - 1 && (used >> first & 1) != 0) {
                first++;
            }
            order[placed] = first;
            return fillLaydown(placed + 1, each - 1, used | 1 << first, numbers[first]);
        }

        private boolean fillLaydown(int placed, int room, int used, int sum) {
            if (room <= 0) {
                return within(sum, leastSum, mostSum) && openLaydown(placed, used);
            }
            if (placed < 1 || placed >= size) {
                return false;
            }
            for (int b = order[placed - 1] + 1; b < size; b++) {
                if ((used >> b & 1) != 0) {
                    continue;
                }
                if (!countTry()) {
                    return false;
                }
                order[placed] = b;
                if (fillLaydown(placed + 1, room - 1, used | 1 << b, sum + numbers[b])) {
                    return true;
                }
                if (spent) {
                    return false;
                }
            }
            return false;
        }

        private boolean countTry() {
            if (tried >= MOST_TRIES) {
                spent = true;
                return false;
            }
            tried++;
            return true;
        }
    }
}
