import java.math.BigInteger;

/** An exact fraction in lowest terms, its lower part above 0. */
record Fraction(BigInteger above, BigInteger below) {
    static final Fraction ZERO = of(0, 1);
    static final Fraction ONE = of(1, 1);

    static Fraction of(long above, long below) {
        return lessened(BigInteger.valueOf(above), BigInteger.valueOf(below));
    }

    private static Fraction lessened(BigInteger above, BigInteger below) {
        BigInteger divisor = above.gcd(below);
        if (below.signum() < 0) {
            divisor = divisor.negate();
        }
        return new Fraction(above.divide(divisor), below.divide(divisor));
    }

    Fraction plus(Fraction o) {
        return lessened(above.multiply(o.below).add(o.above.multiply(below)), below.multiply(o.below));
    }

    Fraction minus(Fraction o) {
        return plus(new Fraction(o.above.negate(), o.below));
    }

    Fraction times(Fraction o) {
        return lessened(above.multiply(o.above), below.multiply(o.below));
    }

    Fraction over(Fraction o) {
        return lessened(above.multiply(o.below), below.multiply(o.above));
    }

    int compareTo(Fraction o) {
        return above.multiply(o.below).compareTo(o.above.multiply(below));
    }

    BigInteger roundedDown() {
        BigInteger[] parts = above.divideAndRemainder(below);
        return parts[1].signum() < 0 ? parts[0].subtract(BigInteger.ONE) : parts[0];
    }

    BigInteger part(int k) {
        return k == 0 ? above : below;
    }
}
