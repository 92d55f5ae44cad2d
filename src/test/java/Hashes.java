import java.math.BigInteger;
import java.util.function.LongPredicate;

/** The document's hashes by whole numbers without bounds, and inputs sought that have the hashes a test wants. */
final class Hashes {
    static final long STRIDE = 0x9E3779B97F4A7C15L;

    private static final long FIRST_FACTOR = 0xBF58476D1CE4E5B9L;
    private static final long SECOND_FACTOR = 0x94D049BB133111EBL;
    private static final BigInteger RANGE = BigInteger.ONE.shiftLeft(64);
    private static final int MOST_TRIES = 1_000_000;

    private Hashes() {
    }

    static long hash(long x, int k) {
        return bigHash(x, k).longValue();
    }

    static int rest(long x, int k, int p) {
        return bigHash(x, k).mod(BigInteger.valueOf(p)).intValue();
    }

    static int offset(long id, int p) {
        return rest(id, 1, p);
    }

    static int step(long id, int p) {
        return 1 + rest(id, 2, p - 1);
    }

    static int slot(long key, int p) {
        return rest(key, 3, p);
    }

    /** The slot that stands at a place, from 0, of the order of slots. */
    static int orderOf(long id, int p, int nth) {
        return (int) ((offset(id, p) + (long) nth * step(id, p)) % p);
    }

    static long score(long id, long key, int c) {
        return hash(key ^ hash(id, 4), c);
    }

    static long best(long id, int weight, long key) {
        long top = score(id, key, 1);
        for (int c = 2; c <= weight; c++) {
            long score = score(id, key, c);
            top = Long.compareUnsigned(score, top) > 0 ? score : top;
        }
        return top;
    }

    /** Whether backends of weight 1 have ever lesser bests for a key. */
    static boolean prefers(long key, long... ids) {
        for (int i = 1; i < ids.length; i++) {
            if (Long.compareUnsigned(best(ids[i - 1], 1, key), best(ids[i], 1, key)) <= 0) {
                return false;
            }
        }
        return true;
    }

    /** Some numbers, the least ones from a first one on, that are as wanted. */
    static long[] some(int many, long from, LongPredicate wanted) {
        long[] found = new long[many];
        int at = 0;
        for (int tries = 0; tries < MOST_TRIES && at < many; tries++) {
            if (wanted.test(from + tries)) {
                found[at] = from + tries;
                at++;
            }
        }
        if (at < many) {
            throw new IllegalStateException("too few inputs are as the test wants them");
        }
        return found;
    }

    static long one(LongPredicate wanted) {
        return some(1, 1, wanted)[0];
    }

    /** Two ids, for weights 1 and 2: the second score of the second is the only score of the first, and its best. */
    static long[] idsWithEqualBests(int seed, long key) {
        long first = some(1, seed * 1_000_003L, id -> Long.compareUnsigned(score(id, key, 1), score(id, key, 0)) > 0)[0];
        long second = unmixed(key ^ ((key ^ hash(first, 4)) - STRIDE)) - 4 * STRIDE;
        return new long[] {first, second};
    }

    private static BigInteger bigHash(long x, int k) {
        BigInteger z = low(big(x).add(BigInteger.valueOf(k).multiply(big(STRIDE))));
        z = low(z.xor(z.shiftRight(30)).multiply(big(FIRST_FACTOR)));
        z = low(z.xor(z.shiftRight(27)).multiply(big(SECOND_FACTOR)));
        return z.xor(z.shiftRight(31));
    }

    private static BigInteger big(long x) {
        return new BigInteger(Long.toUnsignedString(x));
    }

    private static BigInteger low(BigInteger z) {
        return z.mod(RANGE);
    }

    private static long unmixed(long z) {
        long a = unshifted(z, 31) * inverse(SECOND_FACTOR);
        long b = unshifted(a, 27) * inverse(FIRST_FACTOR);
        return unshifted(b, 30);
    }

    private static long unshifted(long z, int bits) {
        return z ^ (z >>> bits) ^ (z >>> (2 * bits));
    }

    private static long inverse(long odd) {
        return big(odd).modInverse(RANGE).longValue();
    }
}
