import java.util.ArrayList;
import java.util.Collections;
import java.util.Comparator;
import java.util.List;
import java.util.TreeMap;
import java.util.TreeSet;

/** The SHARDS of a BLEND, found by looking ever so little beside the middle of every bit. */
final class Shards {
    private final List<Place[]> shards = new ArrayList<>();

    Shards() {
    }

    Shards(List<Place> p, List<Place> q, int op) {
        List<Place[]> sides = sides(p);
        sides.addAll(sides(q));
        TreeSet<Place[]> bits = new TreeSet<>(Comparator.<Place[], Place>comparing(bit -> bit[0]).thenComparing(bit -> bit[1]));
        for (Place[] side : sides) {
            TreeSet<Place> cuts = new TreeSet<>();
            for (Place[] other : sides) {
                cuts.addAll(Figures.meet(side[0], side[1], other[0], other[1]));
            }
            Place last = null;
            for (Place cut : cuts) {
                if (last != null) {
                    bits.add(new Place[] {last, cut});
                }
                last = cut;
            }
        }
        for (Place[] bit : bits) {
            judge(bit, p, q, op);
        }
    }

    private static List<Place[]> sides(List<Place> ring) {
        List<Place[]> sides = new ArrayList<>();
        for (int i = 0; i < ring.size(); i++) {
            sides.add(new Place[] {ring.get(i), ring.get((i + 1) % ring.size())});
        }
        return sides;
    }

    private void judge(Place[] bit, List<Place> p, List<Place> q, int op) {
        Place middle = bit[0].plus(bit[1]).times(Num.of(1, 2));
        Place way = bit[1].minus(bit[0]);
        Place left = new Place(Num.ZERO.minus(way.y), way.x);
        Place right = left.times(Num.of(-1));
        boolean onLeft = counts(op, Figures.isWithin(p, middle, left), Figures.isWithin(q, middle, left));
        boolean onRight = counts(op, Figures.isWithin(p, middle, right), Figures.isWithin(q, middle, right));
        if (onLeft && !onRight) {
            shards.add(bit);
        } else if (onRight && !onLeft) {
            shards.add(new Place[] {bit[1], bit[0]});
        }
    }

    private static boolean counts(int op, boolean p, boolean q) {
        boolean[] all = {p || q, p && q, p && !q, p ^ q};
        return all[op];
    }

    private TreeMap<Place, Integer> leaving() {
        TreeMap<Place, Integer> leaving = new TreeMap<>();
        for (Place[] shard : shards) {
            leaving.merge(shard[0], 1, Integer::sum);
            leaving.merge(shard[1], 0, Integer::sum);
        }
        return leaving;
    }

    int tell(int what) {
        if (what == 0) {
            return shards.size();
        }
        if (what == 1) {
            return leaving().size();
        }
        if (what == 2) {
            return (int) leaving().values().stream().filter(count -> count > 1).count();
        }
        return ring() == null ? 0 : 1;
    }

    /** All ends as one comes through them; null, if it is not ONE RING. */
    List<Place> ring() {
        if (shards.isEmpty() || tell(2) > 0) {
            return null;
        }
        List<Place> ring = new ArrayList<>();
        Place here = shards.get(0)[0];
        while (!ring.contains(here)) {
            ring.add(here);
            for (Place[] shard : shards) {
                if (shard[0].equals(here)) {
                    here = shard[1];
                    break;
                }
            }
        }
        return ring.size() == shards.size() ? ring : null;
    }

    /** The POLYGON that it makes; null, if it makes none. */
    List<Place> polygon() {
        List<Place> ring = ring();
        if (ring == null) {
            return null;
        }
        List<Place> corners = Figures.corners(ring);
        boolean fits = corners.size() <= 12 && corners.stream().noneMatch(Place::isTooFine);
        return fits ? Collections.unmodifiableList(corners) : null;
    }
}
