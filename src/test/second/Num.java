import java.math.BigInteger;

/** A whole number or a fraction in least terms. */
final class Num implements Comparable<Num> {
    static final Num ZERO = of(0);
    static final Num ONE = of(1);
    static final Num TWO = of(2);

    final BigInteger over;
    final BigInteger under;

    private Num(BigInteger over, BigInteger under) {
        BigInteger common = over.gcd(under);
        BigInteger shared = under.signum() < 0 ? common.negate() : common;
        this.over = over.divide(shared);
        this.under = under.divide(shared);
    }

    static Num of(long value) {
        return new Num(BigInteger.valueOf(value), BigInteger.ONE);
    }

    static Num of(long over, long under) {
        return new Num(BigInteger.valueOf(over), BigInteger.valueOf(under));
    }

    Num plus(Num b) {
        return new Num(over.multiply(b.under).add(b.over.multiply(under)), under.multiply(b.under));
    }

    Num minus(Num b) {
        return new Num(over.multiply(b.under).subtract(b.over.multiply(under)), under.multiply(b.under));
    }

    Num times(Num b) {
        return new Num(over.multiply(b.over), under.multiply(b.under));
    }

    Num by(Num b) {
        return new Num(over.multiply(b.under), under.multiply(b.over));
    }

    Num size() {
        return new Num(over.abs(), under);
    }

    int sign() {
        return over.signum();
    }

    boolean isWhole() {
        return under.equals(BigInteger.ONE);
    }

    @Override
    public int compareTo(Num b) {
        return over.multiply(b.under).compareTo(b.over.multiply(under));
    }

    @Override
    public boolean equals(Object b) {
        return b instanceof Num && over.equals(((Num) b).over) && under.equals(((Num) b).under);
    }

    @Override
    public int hashCode() {
        return 31 * over.hashCode() + under.hashCode();
    }

    @Override
    public String toString() {
        return isWhole() ? over.toString() : over + "/" + under;
    }
}
