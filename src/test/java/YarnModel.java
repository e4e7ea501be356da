import java.math.BigInteger;
import java.util.ArrayList;
import java.util.Arrays;
import java.util.List;

/** The document written a second time, with lists and BigIntegers and no care for speed, to hold YarnMill against. */
final class YarnModel {
    private static final BigInteger MOST = BigInteger.TEN.pow(12);

    private int[] first = {1, 1};
    private final List<int[]> machines = new ArrayList<>();
    private final List<List<Integer>> rounds = new ArrayList<>();
    private final List<List<Integer>> rows = new ArrayList<>();
    private final List<Integer> bales = new ArrayList<>();
    private List<List<Integer>> plan = new ArrayList<>();
    private int tries = 0;

    YarnModel() {
        for (int r = 0; r < 8; r++) {
            rows.add(new ArrayList<>());
        }
    }

    private static boolean out(int v, int low, int high) {
        return v < low || v > high;
    }

    private static BigInteger big(long v) {
        return BigInteger.valueOf(v);
    }

    private static BigInteger[] lowest(BigInteger above, BigInteger below) {
        BigInteger g = above.gcd(below);
        return new BigInteger[] {above.divide(g), below.divide(g)};
    }

    long count(int above, int below) {
        if (out(above, 1, 10000) || out(below, 1, 10000)) return -2;
        first = new int[] {above, below};
        return 1;
    }

    long machine(int doublings, int above, int below, int loss) {
        if (out(doublings, 1, 16) || out(above, 1, 60) || out(below, 1, 20) || out(loss, 0, 500)) return -2;
        if (machines.size() == 6) return -4;
        machines.add(new int[] {doublings, above, below, loss});
        rounds.add(new ArrayList<>());
        return machines.size() - 1;
    }

    long roller(int machine, int round) {
        if (out(machine, 0, machines.size() - 1) || out(round, 1, 1000)) return -2;
        if (rounds.get(machine).size() == 3) return -4;
        rounds.get(machine).add(round);
        return rounds.get(machine).size() - 1;
    }

    long clear() {
        int had = machines.size();
        machines.clear();
        rounds.clear();
        return had;
    }

    long countAt(int k, int what) {
        if (out(k, 0, machines.size()) || out(what, 0, 1)) return -2;
        BigInteger[] told = null;
        for (int upTo = 0; upTo <= k; upTo++) {
            BigInteger above = big(first[0]);
            BigInteger below = big(first[1]);
            for (int[] m : machines.subList(0, upTo)) {
                above = above.multiply(big(m[0])).multiply(big(1000 - m[3])).multiply(big(m[2]));
                below = below.multiply(big(1000)).multiply(big(m[1]));
            }
            told = lowest(above, below);
            if (told[0].compareTo(MOST) > 0 || told[1].compareTo(MOST) > 0) return -6;
        }
        return told[what].longValueExact();
    }

    private BigInteger[] periodOf(int machine, int roller) {
        BigInteger above = big(rounds.get(machine).get(roller));
        BigInteger below = BigInteger.ONE;
        for (int[] m : machines.subList(machine + 1, machines.size())) {
            above = above.multiply(big(m[1]));
            below = below.multiply(big(m[2]));
        }
        return lowest(above, below);
    }

    long period(int machine, int roller, int what) {
        if (out(machine, 0, machines.size() - 1) || out(roller, 0, rounds.get(machine).size() - 1) || out(what, 0, 1)) return -2;
        return periodOf(machine, roller)[what].longValueExact();
    }

    long names(int p, int tolerance, int i) {
        if (out(p, 1, 1000000) || out(tolerance, 0, 999) || i < 0) return -2;
        List<Integer> near = new ArrayList<>();
        for (int k = 0; k < machines.size(); k++) {
            for (int r = 0; r < rounds.get(k).size(); r++) {
                BigInteger[] period = periodOf(k, r);
                BigInteger thousand = period[0].multiply(big(1000));
                BigInteger around = period[1].multiply(big(p));
                if (thousand.compareTo(around.multiply(big(1000 - tolerance))) >= 0
                        && thousand.compareTo(around.multiply(big(1000 + tolerance))) <= 0) {
                    near.add(k * 8 + r);
                }
            }
        }
        return i < near.size() ? near.get(i) : -1;
    }

    long cell(int row, int mass) {
        if (out(row, 0, 7) || out(mass, 0, 1000000)) return -2;
        if (rows.get(row).size() == 400) return -4;
        rows.get(row).add(mass);
        return rows.get(row).size();
    }

    long draw(int row, int n, int m, int w, int seed) {
        if (out(row, 0, 7) || out(n, 1, 100) || out(m, 0, 10000) || out(w, 0, m) || seed < 0) return -2;
        if (rows.get(row).size() + n > 400) return -4;
        BigInteger s = big(seed);
        for (int i = 0; i < n; i++) {
            s = s.multiply(big(1103515245)).add(big(12345)).mod(BigInteger.TWO.pow(31));
            rows.get(row).add(m + s.divide(big(65536)).mod(big(2L * w + 1)).intValueExact() - w);
        }
        return rows.get(row).size();
    }

    long empty(int row) {
        if (out(row, 0, 7)) return -2;
        int had = rows.get(row).size();
        rows.get(row).clear();
        return had;
    }

    long at(int row, int i) {
        if (out(row, 0, 7)) return -2;
        return out(i, 0, rows.get(row).size() - 1) ? -1 : rows.get(row).get(i);
    }

    /** Takes what a row would become, unless a mass of it is too great. */
    private boolean becomes(int row, List<Integer> cells) {
        for (int mass : cells) {
            if (mass > 1000000) return false;
        }
        rows.set(row, cells);
        return true;
    }

    long join(int row, int other) {
        if (out(row, 0, 7) || out(other, 0, 7)) return -2;
        List<Integer> a = rows.get(row);
        List<Integer> b = rows.get(other);
        if (row == other || a.size() != b.size()) return -3;
        List<Integer> sums = new ArrayList<>();
        for (int i = 0; i < a.size(); i++) {
            sums.add(a.get(i) + b.get(i));
        }
        return becomes(row, sums) ? sums.size() : -6;
    }

    long stretch(int row, int d) {
        if (out(row, 0, 7) || out(d, 2, 8)) return -2;
        List<Integer> longer = new ArrayList<>();
        for (int mass : rows.get(row)) {
            for (int j = 0; j < d; j++) {
                longer.add((mass + d - 1 - j) / d);
            }
        }
        if (longer.size() > 400) return -4;
        rows.set(row, longer);
        return longer.size();
    }

    long gather(int row, int g) {
        if (out(row, 0, 7) || out(g, 2, 20)) return -2;
        List<Integer> sums = new ArrayList<>();
        for (int i = 0; i < rows.get(row).size(); i++) {
            if (i % g == 0) sums.add(0);
            sums.set(i / g, sums.get(i / g) + rows.get(row).get(i));
        }
        return becomes(row, sums) ? sums.size() : -6;
    }

    long fault(int row, int p, int s) {
        if (out(row, 0, 7) || out(p, 2, 400) || out(s, 0, 1000)) return -2;
        List<Integer> cells = new ArrayList<>(rows.get(row));
        int given = 0;
        for (int i = 0; i < cells.size() / p * p; i++) {
            if (i % p >= p / 2) continue;
            int part = (int) (cells.get(i) * (long) s / 1000);
            cells.set(i, cells.get(i) - part);
            cells.set(i + p / 2, cells.get(i + p / 2) + part);
            given += part;
        }
        return becomes(row, cells) ? given : -6;
    }

    private static BigInteger spread(List<BigInteger> values) {
        BigInteger sum = BigInteger.ZERO;
        BigInteger squares = BigInteger.ZERO;
        for (BigInteger v : values) {
            sum = sum.add(v);
            squares = squares.add(v.multiply(v));
        }
        return squares.multiply(big(values.size())).subtract(sum.multiply(sum));
    }

    private long sum(int row) {
        long sum = 0;
        for (int mass : rows.get(row)) {
            sum += mass;
        }
        return sum;
    }

    long about(int row, int what) {
        if (out(row, 0, 7) || out(what, 0, 2)) return -1;
        if (what == 0) return rows.get(row).size();
        if (what == 1) return sum(row);
        List<BigInteger> values = new ArrayList<>();
        for (int mass : rows.get(row)) {
            values.add(big(mass));
        }
        return spread(values).longValueExact();
    }

    private BigInteger waveOf(int row, int p) {
        BigInteger[] z = new BigInteger[p];
        Arrays.fill(z, BigInteger.ZERO);
        for (int i = 0; i < rows.get(row).size() / p * p; i++) {
            z[i % p] = z[i % p].add(big(rows.get(row).get(i)));
        }
        return spread(Arrays.asList(z));
    }

    long wave(int row, int p) {
        return out(row, 0, 7) || out(p, 2, 200) ? -1 : waveOf(row, p).longValueExact();
    }

    long greatest(int row, int most) {
        if (out(row, 0, 7) || out(most, 2, 200)) return -2;
        int best = -1;
        BigInteger[] bestWave = {big(-1), BigInteger.ONE};
        int n = rows.get(row).size();
        for (int p = 2; p <= most && p <= n / 2; p++) {
            BigInteger[] wave = {waveOf(row, p), big((long) n / p * p * p)};
            if (wave[0].multiply(bestWave[1]).compareTo(bestWave[0].multiply(wave[1])) > 0) {
                best = p;
                bestWave = wave;
            }
        }
        return best;
    }

    /** Marks each CELL that is of the sort; a PLACE is a run of marks, as a text's pieces between blanks. */
    private String marks(int row, int thick, int thin, int sort) {
        StringBuilder marks = new StringBuilder();
        int n = rows.get(row).size();
        long m = n == 0 ? 0 : sum(row) / n;
        for (int mass : rows.get(row)) {
            boolean isSo = sort == 0 ? mass * 100L >= m * (100 + thick) : mass * 100L <= m * (100 - thin);
            marks.append(isSo ? 'x' : ' ');
        }
        return marks.toString();
    }

    private static boolean badLaw(int row, int thick, int thin, int l) {
        return out(row, 0, 7) || out(thick, 1, 1000) || out(thin, 0, 100) || out(l, 1, 50);
    }

    long places(int row, int thick, int thin, int l, int sort) {
        if (badLaw(row, thick, thin, l) || out(sort, 0, 1)) return -2;
        int places = 0;
        for (String run : marks(row, thick, thin, sort).split(" +")) {
            if (run.length() >= l) places++;
        }
        return places;
    }

    long cleared(int row, int thick, int thin, int l) {
        if (badLaw(row, thick, thin, l)) return -2;
        char[] gone = new char[rows.get(row).size()];
        Arrays.fill(gone, 'k');
        for (int sort = 1; sort >= 0; sort--) {
            String marks = marks(row, thick, thin, sort);
            for (int from = 0; from < gone.length; from++) {
                int to = from;
                while (to < gone.length && marks.charAt(to) == 'x') to++;
                if (to - from >= l) Arrays.fill(gone, from, to, 'x');
                from = Math.max(from, to - 1);
            }
        }
        List<Integer> kept = new ArrayList<>();
        for (int i = 0; i < gone.length; i++) {
            if (gone[i] == 'k') kept.add(rows.get(row).get(i));
        }
        rows.set(row, kept);
        String between = new String(gone).replaceAll("^x+", "").replaceAll("x+$", "");
        return between.replaceAll("x+", "x").chars().filter(c -> c == 'x').count();
    }

    long bale(int v) {
        if (out(v, 0, 10000)) return -2;
        if (bales.size() == 12) return -4;
        plan = new ArrayList<>();
        bales.add(v);
        return bales.size() - 1;
    }

    long clearBales() {
        int had = bales.size();
        bales.clear();
        plan = new ArrayList<>();
        return had;
    }

    long plan(int n, int low, int high) {
        if (out(n, 1, 6) || out(low, 0, 10000) || out(high, 0, 10000) || low > high) return -2;
        plan = new ArrayList<>();
        if (bales.size() % n != 0) return -3;
        tries = 0;
        List<Integer> left = new ArrayList<>();
        for (int b = 0; b < bales.size(); b++) {
            left.add(b);
        }
        List<List<Integer>> found = search(left, n, n * low, n * high);
        if (found == null) return -1;
        plan = found;
        return plan.size();
    }

    private List<List<Integer>> search(List<Integer> left, int n, int low, int high) {
        if (left.isEmpty()) return new ArrayList<>();
        List<Integer> begun = new ArrayList<>(left.subList(0, 1));
        return extend(begun, left.subList(1, left.size()), left, n, low, high);
    }

    private List<List<Integer>> extend(List<Integer> begun, List<Integer> higher, List<Integer> left, int n, int low, int high) {
        if (begun.size() == n) {
            int sum = 0;
            for (int b : begun) {
                sum += bales.get(b);
            }
            if (sum < low || sum > high) return null;
            List<Integer> others = new ArrayList<>(left);
            others.removeAll(begun);
            List<List<Integer>> rest = search(others, n, low, high);
            if (rest != null) rest.add(0, begun);
            return rest;
        }
        for (int i = 0; i < higher.size(); i++) {
            tries++;
            List<Integer> more = new ArrayList<>(begun);
            more.add(higher.get(i));
            List<List<Integer>> found = extend(more, higher.subList(i + 1, higher.size()), left, n, low, high);
            if (found != null) return found;
        }
        return null;
    }

    long planAt(int k, int i) {
        return out(k, 0, plan.size() - 1) || out(i, 0, plan.get(k).size() - 1) ? -1 : plan.get(k).get(i);
    }

    long tries() {
        return tries;
    }

    long many(int what) {
        int many = 0;
        switch (what) {
            case 0: return machines.size();
            case 1:
                for (List<Integer> r : rounds) many += r.size();
                return many;
            case 2: return bales.size();
            case 3: return plan.size();
            case 4:
                for (List<Integer> r : rows) many += r.size();
                return many;
            default: return -2;
        }
    }

    long digest() {
        List<Long> told = new ArrayList<>();
        for (int what = 0; what <= 4; what++) {
            told.add(many(what));
        }
        told.add(countAt(machines.size(), 0));
        told.add(countAt(machines.size(), 1));
        for (List<Integer> row : rows) {
            for (int mass : row) told.add((long) mass);
        }
        for (List<Integer> laydown : plan) {
            for (int b : laydown) told.add((long) b);
        }
        long h = 149;
        for (long v : told) {
            h = 31 * h + v;
        }
        return h;
    }
}
