import java.math.BigDecimal;
import java.math.BigInteger;
import java.math.MathContext;
import java.math.RoundingMode;

/** The true values of the three functions, to some 90 decimal digits, and what is read off them. */
final class Truth {
    static final int SINH = 1;
    static final int COSH = 2;
    static final int TANH = 3;
    static final int MOST = 320;

    private static final MathContext FINE = new MathContext(90, RoundingMode.HALF_EVEN);
    private static final BigDecimal TWO = BigDecimal.valueOf(2);
    private static final BigDecimal[][] VALUES = values();

    private Truth() {
    }

    /** The true value for k eighths, k of 0 to 320. */
    static BigDecimal of(int what, int k) {
        return VALUES[what][k];
    }

    private static BigDecimal[][] values() {
        BigDecimal[][] all = new BigDecimal[4][MOST + 1];
        BigDecimal root = expOfAnEighth();
        BigDecimal power = BigDecimal.ONE;
        for (int k = 0; k <= MOST; k++) {
            BigDecimal inverse = BigDecimal.ONE.divide(power, FINE);
            all[SINH][k] = power.subtract(inverse, FINE).divide(TWO, FINE);
            all[COSH][k] = power.add(inverse, FINE).divide(TWO, FINE);
            all[TANH][k] = all[SINH][k].divide(all[COSH][k], FINE);
            power = power.multiply(root, FINE);
        }
        return all;
    }

    private static BigDecimal expOfAnEighth() {
        BigDecimal sum = BigDecimal.ZERO;
        BigDecimal term = BigDecimal.ONE;
        for (int n = 1; n <= 80; n++) {
            sum = sum.add(term, FINE);
            term = term.divide(BigDecimal.valueOf(8L * n), FINE);
        }
        return sum;
    }

    /** The greatest whole number h for which 2^h is not above a size above 0. */
    static int height(BigDecimal size) {
        int h = 0;
        while (powerOfTwo(h).compareTo(size) > 0) {
            h--;
        }
        while (powerOfTwo(h + 1).compareTo(size) <= 0) {
            h++;
        }
        return h;
    }

    /** The first n digits of a size above 0. */
    static BigInteger first(BigDecimal size, int n) {
        return size.multiply(powerOfTwo(n - 1 - height(size))).toBigInteger();
    }

    /** The digits of the number nearest to a size above 0. */
    static long nearest(BigDecimal size) {
        int h = height(size);
        BigDecimal scaled = size.multiply(powerOfTwo(52 - h));
        BigInteger whole = scaled.setScale(0, RoundingMode.HALF_EVEN).toBigIntegerExact();
        // Rounded up to 2^53 it carries into the exponent, as it should.
        return ((long) (h + 1023) << 52) + whole.longValueExact() - (1L << 52);
    }

    private static BigDecimal powerOfTwo(int h) {
        BigDecimal power = TWO.pow(Math.abs(h));
        return h < 0 ? BigDecimal.ONE.divide(power) : power;
    }
}
