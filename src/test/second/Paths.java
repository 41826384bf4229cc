import java.math.BigDecimal;
import java.math.MathContext;
import java.math.RoundingMode;
import java.util.ArrayList;
import java.util.List;
import java.util.TreeSet;

/** What can be seen in a polygon, and the shortest ways, found by trying all ways from corner to corner. */
final class Paths {
    private static final MathContext FINE = new MathContext(400);
    private static final BigDecimal NEARLY_NOTHING = BigDecimal.ONE.movePointLeft(300);

    private final List<Place> ring;

    Paths(List<Place> ring) {
        this.ring = ring;
    }

    boolean sees(Place a, Place b) {
        TreeSet<Place> cuts = new TreeSet<>(List.of(a, b));
        for (int i = 0; i < ring.size(); i++) {
            cuts.addAll(Figures.meet(a, b, ring.get(i), ring.get((i + 1) % ring.size())));
        }
        Place last = null;
        for (Place cut : cuts) {
            if (Figures.position(ring, cut) < 0) {
                return false;
            }
            if (last != null && Figures.position(ring, last.plus(cut).times(Num.of(1, 2))) < 0) {
                return false;
            }
            last = cut;
        }
        return true;
    }

    /** The numbers of the CORNERS where the WAY bends. */
    List<Integer> bends(Place a, Place b) {
        List<Integer> bends = new ArrayList<>();
        if (sees(a, b)) {
            return bends;
        }
        List<Place> nodes = new ArrayList<>(ring);
        nodes.add(a);
        nodes.add(b);
        int[] before = shortest(nodes);
        List<Integer> way = new ArrayList<>();
        for (int node = nodes.size() - 1; node >= 0; node = before[node]) {
            if (way.isEmpty() || !nodes.get(way.get(0)).equals(nodes.get(node))) {
                way.add(0, node);
            }
        }
        for (int i = 1; i + 1 < way.size(); i++) {
            Place ahead = nodes.get(way.get(i - 1));
            if (Place.side(ahead, nodes.get(way.get(i)), nodes.get(way.get(i + 1))) != 0) {
                bends.add(way.get(i));
            }
        }
        return bends;
    }

    /** From the last node but one to all others: from which node one comes to it. */
    private int[] shortest(List<Place> nodes) {
        int count = nodes.size();
        int start = count - 2;
        int[] before = new int[count];
        BigDecimal[] far = new BigDecimal[count];
        boolean[] done = new boolean[count];
        before[start] = -1;
        far[start] = BigDecimal.ZERO;
        for (int round = 0; round < count; round++) {
            int next = -1;
            for (int i = 0; i < count; i++) {
                if (!done[i] && far[i] != null && (next < 0 || far[i].compareTo(far[next]) < 0)) {
                    next = i;
                }
            }
            done[next] = true;
            for (int i = 0; i < count; i++) {
                if (!done[i] && sees(nodes.get(next), nodes.get(i))) {
                    BigDecimal way = far[next].add(root(nodes.get(next).square(nodes.get(i))));
                    if (far[i] == null || way.compareTo(far[i]) < 0) {
                        far[i] = way;
                        before[i] = next;
                    }
                }
            }
        }
        return before;
    }

    private static BigDecimal root(Num square) {
        return new BigDecimal(square.over).divide(new BigDecimal(square.under), FINE).sqrt(FINE);
    }

    BigDecimal length(Place a, Place b) {
        BigDecimal sum = BigDecimal.ZERO;
        Place here = a;
        for (int bend : bends(a, b)) {
            sum = sum.add(root(here.square(ring.get(bend))));
            here = ring.get(bend);
        }
        return sum.add(root(here.square(b)));
    }

    int thousandfold(Place a, Place b) {
        BigDecimal far = length(a, b).movePointRight(3);
        BigDecimal whole = far.setScale(0, RoundingMode.HALF_EVEN);
        boolean isWhole = far.subtract(whole).abs().compareTo(NEARLY_NOTHING) < 0;
        return (isWhole ? whole : far.setScale(0, RoundingMode.FLOOR)).intValueExact();
    }

    int compareLengths(Place a, Place b, Place c, Place d) {
        BigDecimal more = length(a, b).subtract(length(c, d));
        return more.abs().compareTo(NEARLY_NOTHING) < 0 ? 0 : more.signum();
    }
}
