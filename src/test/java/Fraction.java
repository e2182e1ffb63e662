import java.math.BigInteger;

/** An exact fraction; its divisor is above 0. */
record Fraction(BigInteger top, BigInteger under) implements Comparable<Fraction> {
    static final Fraction ZERO = whole(0);
    static final Fraction ONE = whole(1);

    static Fraction whole(long value) {
        return new Fraction(BigInteger.valueOf(value), BigInteger.ONE);
    }

    static Fraction of(BigInteger top, BigInteger under) {
        BigInteger common = top.gcd(under);
        BigInteger by = under.signum() < 0 ? common.negate() : common;
        return new Fraction(top.divide(by), under.divide(by));
    }

    Fraction plus(Fraction other) {
        return of(top.multiply(other.under).add(other.top.multiply(under)), under.multiply(other.under));
    }

    Fraction minus(Fraction other) {
        return plus(new Fraction(other.top.negate(), other.under));
    }

    Fraction times(Fraction other) {
        return of(top.multiply(other.top), under.multiply(other.under));
    }

    Fraction over(Fraction other) {
        return of(top.multiply(other.under), under.multiply(other.top));
    }

    int sign() {
        return top.signum();
    }

    long floor() {
        BigInteger[] parts = top.divideAndRemainder(under);
        return parts[0].longValueExact() - (parts[1].signum() < 0 ? 1 : 0);
    }

    @Override
    public int compareTo(Fraction other) {
        return top.multiply(other.under).compareTo(other.top.multiply(under));
    }

    boolean isBetween(Fraction low, Fraction high) {
        return compareTo(low) >= 0 && compareTo(high) <= 0;
    }

    boolean isInside(Fraction low, Fraction high) {
        return compareTo(low) > 0 && compareTo(high) < 0;
    }
}
