import java.math.BigInteger;

/** Numbers of the FIELD as the tests need them. */
final class Field {
    /** The prime: a number below 0 is written as M less what it is below. */
    static final int M = 10007;
    /** Next to the FIELD on both sides, and as far off as it goes. */
    static final int[] OUTSIDE = {-1, M, Integer.MIN_VALUE, Integer.MAX_VALUE};

    private Field() {
    }

    static int mod(long a) {
        return (int) ((a % M + M) % M);
    }

    static int mod(BigInteger a) {
        return a.mod(BigInteger.valueOf(M)).intValue();
    }

    static int inverse(long a) {
        int found = 1;
        while (mod(mod(a) * (long) found) != 1) {
            found++;
        }
        return found;
    }

    /** Over a number that is not 0. */
    static int over(long a, long b) {
        return mod(mod(a) * (long) inverse(b));
    }
}
