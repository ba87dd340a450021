import java.math.BigInteger;

/** A fraction in lowest terms, for the oracle. */
final class Ratio implements Comparable<Ratio> {
    static final Ratio ZERO = of(0);
    static final Ratio ONE = of(1);

    final BigInteger above;
    final BigInteger below;

    private Ratio(BigInteger above, BigInteger below) {
        BigInteger common = above.gcd(below);
        BigInteger by = below.signum() < 0 ? common.negate() : common;
        this.above = above.divide(by);
        this.below = below.divide(by);
    }

    static Ratio of(long n) {
        return new Ratio(BigInteger.valueOf(n), BigInteger.ONE);
    }

    static Ratio of(long n, long d) {
        return new Ratio(BigInteger.valueOf(n), BigInteger.valueOf(d));
    }

    Ratio plus(Ratio o) {
        return new Ratio(above.multiply(o.below).add(o.above.multiply(below)), below.multiply(o.below));
    }

    Ratio minus(Ratio o) {
        return plus(o.times(of(-1)));
    }

    Ratio times(Ratio o) {
        return new Ratio(above.multiply(o.above), below.multiply(o.below));
    }

    Ratio times(long n) {
        return times(of(n));
    }

    Ratio over(Ratio o) {
        return new Ratio(above.multiply(o.below), below.multiply(o.above));
    }

    Ratio over(long n) {
        return over(of(n));
    }

    Ratio abs() {
        return signum() < 0 ? times(-1) : this;
    }

    int signum() {
        return above.signum();
    }

    boolean isZero() {
        return signum() == 0;
    }

    /** The greatest whole number not above. */
    int floor() {
        BigInteger[] parts = above.divideAndRemainder(below);
        return (parts[1].signum() < 0 ? parts[0].subtract(BigInteger.ONE) : parts[0]).intValueExact();
    }

    @Override
    public int compareTo(Ratio o) {
        return above.multiply(o.below).compareTo(o.above.multiply(below));
    }

    @Override
    public boolean equals(Object o) {
        return o instanceof Ratio && compareTo((Ratio) o) == 0;
    }

    @Override
    public int hashCode() {
        return above.hashCode() * 31 + below.hashCode();
    }

    @Override
    public String toString() {
        return below.equals(BigInteger.ONE) ? above.toString() : above + "/" + below;
    }
}
