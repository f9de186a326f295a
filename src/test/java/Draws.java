import java.math.BigInteger;

/** The document's generator in numbers without end, and states of it that draw what a test needs. */
final class Draws {
    private static final BigInteger FACTOR = BigInteger.valueOf(1103515245);
    private static final BigInteger INCREMENT = BigInteger.valueOf(12345);
    private static final BigInteger MODULUS = BigInteger.valueOf(2147483648L);
    private static final int MOST_STATES = 50000000;

    private Draws() {
    }

    static int next(int state) {
        return BigInteger.valueOf(state).multiply(FACTOR).add(INCREMENT).mod(MODULUS).intValueExact();
    }

    /** What a draw yields that makes this the new state. */
    static int drawn(int newState) {
        return newState / 65536 % 1000;
    }

    /** The state that a draw replaces by the given one. */
    static int before(int newState) {
        BigInteger product = BigInteger.valueOf(newState).subtract(INCREMENT);
        return product.multiply(FACTOR.modInverse(MODULUS)).mod(MODULUS).intValueExact();
    }

    /** A state whose next draw yields the number. */
    static int drawing(int number) {
        return before(number * 65536);
    }

    /**
     * A state whose next draws elect as the pattern says, a 1 or a 0 for each sensor that draws, in a round that is
     * the given number of rounds from the end of its cycle (cycle - phase).
     */
    static int electing(int left, String pattern) {
        for (int state = 0; state < MOST_STATES; state++) {
            if (elects(state, left, pattern)) {
                return state;
            }
        }
        throw new IllegalArgumentException("no state elects " + pattern + " with " + left + " left");
    }

    private static boolean elects(int state, int left, String pattern) {
        long x = state;
        for (int n = 0; n < pattern.length(); n++) {
            x = (x * 1103515245L + 12345L) % 2147483648L;
            if (drawn((int) x) * left < 1000 != (pattern.charAt(n) == '1')) {
                return false;
            }
        }
        return true;
    }
}
