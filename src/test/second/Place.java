import java.math.BigInteger;
import java.util.List;

/** A pair of numbers. */
final class Place implements Comparable<Place> {
    private static final Num REACH = Num.of(50);
    private static final BigInteger FINEST = BigInteger.valueOf(1000000000);

    final Num x;
    final Num y;

    Place(Num x, Num y) {
        this.x = x;
        this.y = y;
    }

    Place plus(Place b) {
        return new Place(x.plus(b.x), y.plus(b.y));
    }

    Place minus(Place b) {
        return new Place(x.minus(b.x), y.minus(b.y));
    }

    Place times(Num f) {
        return new Place(x.times(f), y.times(f));
    }

    Num cross(Place b) {
        return x.times(b.y).minus(y.times(b.x));
    }

    Num dot(Place b) {
        return x.times(b.x).plus(y.times(b.y));
    }

    Num square(Place b) {
        Place way = b.minus(this);
        return way.dot(way);
    }

    Place turned(Place c, int m, int n) {
        Num all = Num.of(m * m + n * n);
        Num cos = Num.of(m * m - n * n).by(all);
        Num sin = Num.of(2 * m * n).by(all);
        Num u = x.minus(c.x);
        Num v = y.minus(c.y);
        return new Place(c.x.plus(cos.times(u)).minus(sin.times(v)), c.y.plus(sin.times(u)).plus(cos.times(v)));
    }

    boolean isInBox() {
        return x.size().compareTo(REACH) <= 0 && y.size().compareTo(REACH) <= 0;
    }

    boolean isTooFine() {
        return x.under.compareTo(FINEST) > 0 || y.under.compareTo(FINEST) > 0;
    }

    static Num turn(Place a, Place b, Place c) {
        return b.minus(a).cross(c.minus(a));
    }

    static int side(Place a, Place b, Place c) {
        return turn(a, b, c).sign();
    }

    /** Whether k is on the straight piece from a to b. */
    static boolean isOn(Place k, Place a, Place b) {
        return side(a, b, k) == 0 && a.minus(k).dot(b.minus(k)).sign() <= 0;
    }

    static String text(List<Place> row) {
        StringBuilder text = new StringBuilder();
        for (Place place : row) {
            text.append(place);
        }
        return text.toString();
    }

    @Override
    public int compareTo(Place b) {
        return x.equals(b.x) ? y.compareTo(b.y) : x.compareTo(b.x);
    }

    @Override
    public boolean equals(Object b) {
        return b instanceof Place && x.equals(((Place) b).x) && y.equals(((Place) b).y);
    }

    @Override
    public int hashCode() {
        return 31 * x.hashCode() + y.hashCode();
    }

    @Override
    public String toString() {
        return "(" + x + "," + y + ")";
    }
}
