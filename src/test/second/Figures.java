import java.util.ArrayList;
import java.util.Collections;
import java.util.List;
import java.util.TreeSet;

/** Convex sets, pieces and polygons, in the plainest form. */
final class Figures {
    private Figures() {
    }

    /** CORNERS of the least convex set that holds all: counterclockwise from the LEAST one. */
    static List<Place> hull(List<Place> places) {
        List<Place> sorted = new ArrayList<>(new TreeSet<>(places));
        if (sorted.size() < 3) {
            return sorted;
        }
        List<Place> low = chain(sorted);
        Collections.reverse(sorted);
        List<Place> high = chain(sorted);
        List<Place> all = new ArrayList<>(low.subList(0, low.size() - 1));
        all.addAll(high.subList(0, high.size() - 1));
        return all;
    }

    private static List<Place> chain(List<Place> sorted) {
        List<Place> row = new ArrayList<>();
        for (Place place : sorted) {
            while (row.size() > 1 && Place.side(row.get(row.size() - 2), row.get(row.size() - 1), place) <= 0) {
                row.remove(row.size() - 1);
            }
            row.add(place);
        }
        return row;
    }

    /** All places with a * x + b * y + c not below 0. */
    static final class Half {
        final Num a;
        final Num b;
        final Num c;

        Half(Num a, Num b, Num c) {
            this.a = a;
            this.b = b;
            this.c = c;
        }

        /** What is not right of the way from p to q. */
        static Half leftOf(Place p, Place q) {
            Num a = p.y.minus(q.y);
            Num b = q.x.minus(p.x);
            return new Half(a, b, Num.ZERO.minus(a.times(p.x).plus(b.times(p.y))));
        }

        /** What is no farther from p than from q. */
        static Half nearer(Place p, Place q) {
            Place way = p.minus(q);
            Num c = q.dot(q).minus(p.dot(p));
            return new Half(way.x.times(Num.TWO), way.y.times(Num.TWO), c);
        }

        boolean holds(Place k) {
            return a.times(k.x).plus(b.times(k.y)).plus(c).sign() >= 0;
        }
    }

    static List<Half> box() {
        List<Half> box = new ArrayList<>();
        box.add(new Half(Num.ONE, Num.ZERO, Num.of(50)));
        box.add(new Half(Num.of(-1), Num.ZERO, Num.of(50)));
        box.add(new Half(Num.ZERO, Num.ONE, Num.of(50)));
        box.add(new Half(Num.ZERO, Num.of(-1), Num.of(50)));
        return box;
    }

    /** CORNERS of what is in all of these (the BOX is among them, so that it ends somewhere). */
    static List<Place> common(List<Half> halves) {
        TreeSet<Place> found = new TreeSet<>();
        for (int i = 0; i < halves.size(); i++) {
            for (int j = i + 1; j < halves.size(); j++) {
                Half g = halves.get(i);
                Half h = halves.get(j);
                Num w = g.a.times(h.b).minus(g.b.times(h.a));
                if (w.sign() != 0) {
                    Num x = g.b.times(h.c).minus(g.c.times(h.b)).by(w);
                    Num y = g.c.times(h.a).minus(g.a.times(h.c)).by(w);
                    Place place = new Place(x, y);
                    if (halves.stream().allMatch(half -> half.holds(place))) {
                        found.add(place);
                    }
                }
            }
        }
        return hull(new ArrayList<>(found));
    }

    static Num twice(List<Place> ring) {
        Num sum = Num.ZERO;
        for (int i = 0; i < ring.size(); i++) {
            sum = sum.plus(ring.get(i).cross(ring.get((i + 1) % ring.size())));
        }
        return sum;
    }

    static Num area(List<Place> ring) {
        return ring.size() < 3 ? Num.ZERO : twice(ring).by(Num.TWO);
    }

    /** What two straight pieces both hold: no place, one, or the two ends of a straight piece. */
    static List<Place> meet(Place a, Place b, Place c, Place d) {
        TreeSet<Place> ends = new TreeSet<>();
        if (Place.isOn(a, c, d)) {
            ends.add(a);
        }
        if (Place.isOn(b, c, d)) {
            ends.add(b);
        }
        if (Place.isOn(c, a, b)) {
            ends.add(c);
        }
        if (Place.isOn(d, a, b)) {
            ends.add(d);
        }
        Place one = b.minus(a);
        Place other = d.minus(c);
        Num w = one.cross(other);
        if (ends.isEmpty() && w.sign() != 0) {
            Num t = c.minus(a).cross(other).by(w);
            Num s = c.minus(a).cross(one).by(w);
            if (isPart(t) && isPart(s)) {
                ends.add(a.plus(one.times(t)));
            }
        }
        return new ArrayList<>(ends);
    }

    private static boolean isPart(Num t) {
        return t.sign() >= 0 && t.compareTo(Num.ONE) <= 0;
    }

    /** 1 if within the ring, 0 if on its rim, -1 if outside. */
    static int position(List<Place> ring, Place k) {
        for (int i = 0; i < ring.size(); i++) {
            if (Place.isOn(k, ring.get(i), ring.get((i + 1) % ring.size()))) {
                return 0;
            }
        }
        return isWithin(ring, k, new Place(Num.ZERO, Num.ZERO)) ? 1 : -1;
    }

    /** Whether the place ever so little away from k in that direction is within the ring; it is not on the rim. */
    static boolean isWithin(List<Place> ring, Place k, Place direction) {
        boolean within = false;
        for (int i = 0; i < ring.size(); i++) {
            Place a = ring.get(i);
            Place b = ring.get((i + 1) % ring.size());
            boolean aBelow = isBelow(a, k, direction);
            boolean bBelow = isBelow(b, k, direction);
            if (aBelow != bBelow) {
                Place low = aBelow ? a : b;
                Place high = aBelow ? b : a;
                int s = Place.side(low, high, k);
                int side = s != 0 ? s : high.minus(low).cross(direction).sign();
                within = side > 0 ? !within : within;
            }
        }
        return within;
    }

    private static boolean isBelow(Place corner, Place k, Place direction) {
        int c = corner.y.compareTo(k.y);
        return c != 0 ? c < 0 : direction.y.sign() > 0;
    }

    /** AREA of what two rings share: of each triangle of the one with each of the other, with their signs. */
    static Num sharedArea(List<Place> p, List<Place> q) {
        Num sum = Num.ZERO;
        for (int i = 1; i + 1 < p.size(); i++) {
            for (int j = 1; j + 1 < q.size(); j++) {
                int sign = Place.side(p.get(0), p.get(i), p.get(i + 1)) * Place.side(q.get(0), q.get(j), q.get(j + 1));
                if (sign != 0) {
                    List<Place> left = triangle(p, i);
                    List<Place> other = triangle(q, j);
                    for (int e = 0; e < 3; e++) {
                        left = clip(left, Half.leftOf(other.get(e), other.get((e + 1) % 3)));
                    }
                    Num area = area(left);
                    sum = sign > 0 ? sum.plus(area) : sum.minus(area);
                }
            }
        }
        return sum;
    }

    private static List<Place> triangle(List<Place> ring, int i) {
        boolean left = Place.side(ring.get(0), ring.get(i), ring.get(i + 1)) > 0;
        return List.of(ring.get(0), ring.get(left ? i : i + 1), ring.get(left ? i + 1 : i));
    }

    /** Takes off the ring what is not in the half; what is left of a bent ring hangs together by lines. */
    static List<Place> clip(List<Place> ring, Half half) {
        List<Place> left = new ArrayList<>();
        for (int i = 0; i < ring.size(); i++) {
            Place a = ring.get(i);
            Place b = ring.get((i + 1) % ring.size());
            Num atA = half.a.times(a.x).plus(half.b.times(a.y)).plus(half.c);
            Num atB = half.a.times(b.x).plus(half.b.times(b.y)).plus(half.c);
            if (atA.sign() >= 0) {
                left.add(a);
            }
            if (atA.sign() * atB.sign() < 0) {
                left.add(a.plus(b.minus(a).times(atA.by(atA.minus(atB)))));
            }
        }
        return left;
    }

    /** The ring as CORNERS of a POLYGON: without straight ones, counterclockwise, from the LEAST one on. */
    static List<Place> corners(List<Place> ring) {
        List<Place> row = new ArrayList<>(ring);
        if (twice(row).sign() < 0) {
            Collections.reverse(row);
        }
        List<Place> bent = new ArrayList<>();
        for (int i = 0; i < row.size(); i++) {
            Place before = row.get((i + row.size() - 1) % row.size());
            if (Place.side(before, row.get(i), row.get((i + 1) % row.size())) != 0) {
                bent.add(row.get(i));
            }
        }
        if (!bent.isEmpty()) {
            Collections.rotate(bent, -bent.indexOf(Collections.min(bent)));
        }
        return bent;
    }
}
