import java.math.BigInteger;

/** A reduced fraction without bounds. */
final class Fraction implements Comparable<Fraction> {
    static final Fraction ZERO = of(0);

    final BigInteger numerator;
    final BigInteger denominator;

    private Fraction(BigInteger numerator, BigInteger denominator) {
        BigInteger divisor = numerator.gcd(denominator);
        if (denominator.signum() < 0) {
            divisor = divisor.negate();
        }
        this.numerator = numerator.divide(divisor);
        this.denominator = denominator.divide(divisor);
    }

    static Fraction of(long value) {
        return new Fraction(BigInteger.valueOf(value), BigInteger.ONE);
    }

    Fraction plus(Fraction other) {
        return new Fraction(numerator.multiply(other.denominator).add(other.numerator.multiply(denominator)),
                denominator.multiply(other.denominator));
    }

    Fraction times(Fraction other) {
        return new Fraction(numerator.multiply(other.numerator), denominator.multiply(other.denominator));
    }

    Fraction times(long factor) {
        return times(of(factor));
    }

    Fraction over(Fraction other) {
        return new Fraction(numerator.multiply(other.denominator), denominator.multiply(other.numerator));
    }

    Fraction minus(Fraction other) {
        return plus(other.times(-1));
    }

    Fraction abs() {
        return numerator.signum() < 0 ? times(-1) : this;
    }

    Fraction min(Fraction other) {
        return compareTo(other) <= 0 ? this : other;
    }

    Fraction max(Fraction other) {
        return compareTo(other) >= 0 ? this : other;
    }

    boolean isZero() {
        return numerator.signum() == 0;
    }

    boolean isBelow(Fraction other) {
        return compareTo(other) < 0;
    }

    Fraction floor() {
        BigInteger[] parts = numerator.divideAndRemainder(denominator);
        BigInteger whole = parts[1].signum() < 0 ? parts[0].subtract(BigInteger.ONE) : parts[0];
        return new Fraction(whole, BigInteger.ONE);
    }

    Fraction ceiling() {
        return times(-1).floor().times(-1);
    }

    long whole() {
        if (!denominator.equals(BigInteger.ONE)) {
            throw new IllegalStateException("no integer: " + this);
        }
        return numerator.longValueExact();
    }

    @Override
    public int compareTo(Fraction other) {
        return numerator.multiply(other.denominator).compareTo(other.numerator.multiply(denominator));
    }

    @Override
    public String toString() {
        return numerator + "/" + denominator;
    }
}
