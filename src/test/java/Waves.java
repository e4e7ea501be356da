import java.math.BigInteger;

/** WAVES of masses, reckoned without a mill, to hold greatest() against. */
final class Waves {
    private Waves() {
    }

    static int greatest(int most, int... masses) {
        int best = YarnMill.NONE;
        BigInteger bestWave = BigInteger.ONE.negate();
        BigInteger bestBy = BigInteger.ONE;
        for (int p = 2; p <= most && p <= masses.length / 2; p++) {
            int taken = masses.length / p * p;
            BigInteger wave = BigInteger.valueOf(at(p, taken, masses));
            BigInteger by = BigInteger.valueOf((long) taken * p);
            if (wave.multiply(bestBy).compareTo(bestWave.multiply(by)) > 0) {
                best = p;
                bestWave = wave;
                bestBy = by;
            }
        }
        return best;
    }

    private static long at(int p, int taken, int... masses) {
        long[] z = new long[p];
        for (int i = 0; i < taken; i++) {
            z[i % p] += masses[i];
        }
        long sum = 0;
        long squares = 0;
        for (long v : z) {
            sum += v;
            squares += v * v;
        }
        return p * squares - sum * sum;
    }
}
