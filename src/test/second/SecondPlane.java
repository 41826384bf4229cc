import java.util.ArrayDeque;
import java.util.ArrayList;
import java.util.Collections;
import java.util.Deque;
import java.util.List;

/**
 * The same plane once more, written straight from ../shared/DOC.md, slowly and plainly, with whatever the
 * Java library has. Nothing of it is taken from the program: it is there to be compared with it.
 */
public final class SecondPlane {
    private static final int NONE = -1;

    /** All that undo() brings back; the rows in it are never changed, but exchanged. */
    private static final class State {
        private final Place[] points = new Place[10];
        private final Place[][] pieces = new Place[8][];
        private List<Place> chain = List.of();
        private final List<List<Place>> polygons = new ArrayList<>(Collections.nCopies(4, null));
        private final Place[][] halves = new Place[6][];

        private State copy() {
            State copy = new State();
            System.arraycopy(points, 0, copy.points, 0, points.length);
            System.arraycopy(pieces, 0, copy.pieces, 0, pieces.length);
            copy.chain = chain;
            Collections.copy(copy.polygons, polygons);
            System.arraycopy(halves, 0, copy.halves, 0, halves.length);
            return copy;
        }
    }

    private State now = new State();
    private final Deque<State> past = new ArrayDeque<>();
    private int knocks;

    private void change() {
        past.push(now);
        if (past.size() > 5) {
            past.removeLast();
        }
        now = now.copy();
    }

    private static IndexOutOfBoundsException noSuch() {
        return new IndexOutOfBoundsException();
    }

    private static void ask(boolean fine) {
        if (!fine) {
            throw new IllegalArgumentException();
        }
    }

    private static void state(boolean fine) {
        if (!fine) {
            throw new IllegalStateException();
        }
    }

    private static void askWhat(int what, int last) {
        ask(what >= 0 && what <= last);
    }

    private Place point(int k) {
        if (k < 0 || k > 9 || now.points[k] == null) {
            throw noSuch();
        }
        return now.points[k];
    }

    private List<Place> polygon(int p) {
        if (p < 0 || p > 3 || now.polygons.get(p) == null) {
            throw noSuch();
        }
        return now.polygons.get(p);
    }

    private static int free(Object[] row) {
        for (int i = 0; i < row.length; i++) {
            if (row[i] == null) {
                return i;
            }
        }
        return NONE;
    }

    private static int set(Object[] row) {
        int set = 0;
        for (int i = 0; i < row.length; i++) {
            set += row[i] != null ? 1 << i : 0;
        }
        return set;
    }

    private static int count(Object[] row) {
        return Integer.bitCount(set(row));
    }

    private List<Integer> numbers() {
        List<Integer> numbers = new ArrayList<>();
        for (int i = 0; i < 10; i++) {
            if (now.points[i] != null) {
                numbers.add(i);
            }
        }
        return numbers;
    }

    private List<Place> places() {
        List<Place> places = new ArrayList<>();
        numbers().forEach(i -> places.add(now.points[i]));
        return places;
    }

    public int put(int xn, int xd, int yn, int yd) {
        ask(xd >= 1 && xd <= 12 && yd >= 1 && yd <= 12);
        Place place = new Place(Num.of(xn, xd), Num.of(yn, yd));
        ask(place.isInBox());
        int k = free(now.points);
        state(k != NONE && !places().contains(place));
        change();
        now.points[k] = place;
        return k;
    }

    public int take(int k) {
        point(k);
        change();
        now.points[k] = null;
        return count(now.points);
    }

    public int turn(int centre, int m, int n) {
        Place c = point(centre);
        ask(m >= 1 && m <= 6 && n >= -6 && n <= 6);
        Place[] turned = new Place[10];
        int moved = 0;
        for (int i : numbers()) {
            turned[i] = now.points[i].turned(c, m, n);
            state(turned[i].isInBox() && !turned[i].isTooFine());
            moved += turned[i].equals(now.points[i]) ? 0 : 1;
        }
        change();
        System.arraycopy(turned, 0, now.points, 0, 10);
        return moved;
    }

    public String pointText(int k) {
        return point(k).toString();
    }

    public String square(int a, int b) {
        return point(a).square(point(b)).toString();
    }

    public int side(int a, int b, int c) {
        return Place.side(point(a), point(b), point(c));
    }

    private static Place centre(Place a, Place b, Place c) {
        Place u = b.minus(a);
        Place v = c.minus(a);
        Num w = u.cross(v).times(Num.TWO);
        Num x = v.y.times(u.dot(u)).minus(u.y.times(v.dot(v))).by(w);
        Num y = u.x.times(v.dot(v)).minus(v.x.times(u.dot(u))).by(w);
        return a.plus(new Place(x, y));
    }

    private static int circle(Place a, Place b, Place c, Place d) {
        Place centre = centre(a, b, c);
        return centre.square(a).compareTo(centre.square(d));
    }

    public int circle(int a, int b, int c, int d) {
        Place[] all = {point(a), point(b), point(c), point(d)};
        state(Place.side(all[0], all[1], all[2]) != 0);
        return circle(all[0], all[1], all[2], all[3]);
    }

    private List<Integer> hull() {
        List<Integer> hull = new ArrayList<>();
        for (Place corner : Figures.hull(places())) {
            for (int i : numbers()) {
                if (now.points[i].equals(corner)) {
                    hull.add(i);
                }
            }
        }
        return hull;
    }

    public int hullSize() {
        return hull().size();
    }

    public int hullAt(int i) {
        if (i < 0 || i >= hull().size()) {
            throw noSuch();
        }
        return hull().get(i);
    }

    /** The greatest distance from the SIDE-LINE e, squared. */
    private Num width(List<Place> hull, int e) {
        Place a = hull.get(e);
        Place b = hull.get((e + 1) % hull.size());
        Num most = Num.ZERO;
        for (Place place : places()) {
            Num twice = Place.turn(a, b, place);
            Num width = twice.times(twice).by(a.square(b));
            most = width.compareTo(most) > 0 ? width : most;
        }
        return most;
    }

    public String hullText(int what) {
        askWhat(what, 1);
        List<Place> hull = Figures.hull(places());
        if (what == 0) {
            return Figures.area(hull).toString();
        }
        return hull.size() < 3 ? "0" : width(hull, flattest()).toString();
    }

    public int flattest() {
        List<Place> hull = Figures.hull(places());
        int best = NONE;
        for (int e = 0; e < hull.size() && hull.size() > 2; e++) {
            best = best == NONE || width(hull, e).compareTo(width(hull, best)) < 0 ? e : best;
        }
        return best;
    }

    public int pairOf(int what) {
        askWhat(what, 3);
        int[] pair = {NONE, NONE};
        int wanted = what < 2 ? 1 : -1;
        for (int i : numbers()) {
            for (int j : numbers()) {
                if (i < j) {
                    Num own = now.points[i].square(now.points[j]);
                    if (pair[0] == NONE
                        || own.compareTo(now.points[pair[0]].square(now.points[pair[1]])) == wanted) {
                        pair = new int[] {i, j};
                    }
                }
            }
        }
        return pair[what % 2];
    }

    /** Centre of the LEAST CIRCLE: of all that hold all, through two or three POINTS, the least. */
    private Place leastCentre() {
        List<Integer> all = numbers();
        Place best = all.size() == 1 ? now.points[all.get(0)] : null;
        for (int i : all) {
            for (int j : all) {
                for (int k : all) {
                    Place centre = null;
                    if (i < j && j == k) {
                        centre = now.points[i].plus(now.points[j]).times(Num.of(1, 2));
                    } else if (i < j && j < k && Place.side(now.points[i], now.points[j], now.points[k]) != 0) {
                        centre = centre(now.points[i], now.points[j], now.points[k]);
                    }
                    if (centre != null && (best == null || radius(centre).compareTo(radius(best)) < 0)) {
                        best = centre;
                    }
                }
            }
        }
        return best;
    }

    /** The square of the radius that a circle about this centre needs to hold all. */
    private Num radius(Place centre) {
        Num most = Num.ZERO;
        for (Place place : places()) {
            most = place.square(centre).compareTo(most) > 0 ? place.square(centre) : most;
        }
        return most;
    }

    public int leastSet() {
        Place centre = leastCentre();
        if (centre == null) {
            return 0;
        }
        List<Integer> on = numbers();
        Num radius = radius(centre);
        on.removeIf(i -> !now.points[i].square(centre).equals(radius));
        if (numbers().size() == 1) {
            return 1 << on.get(0);
        }
        for (int i : on) {
            for (int j : on) {
                if (i < j && now.points[i].plus(now.points[j]).equals(centre.times(Num.TWO))) {
                    return 1 << i | 1 << j;
                }
            }
        }
        for (int i : on) {
            for (int j : on) {
                for (int k : on) {
                    if (i < j && j < k && isSharp(i, j, k) && isSharp(j, i, k) && isSharp(k, i, j)) {
                        return 1 << i | 1 << j | 1 << k;
                    }
                }
            }
        }
        throw new IllegalStateException("nothing holds the LEAST CIRCLE");
    }

    private boolean isSharp(int at, int i, int j) {
        return now.points[i].minus(now.points[at]).dot(now.points[j].minus(now.points[at])).sign() > 0;
    }

    public String leastText(int what) {
        askWhat(what, 1);
        Place centre = leastCentre();
        if (centre == null) {
            return "";
        }
        return what == 0 ? centre.toString() : radius(centre).toString();
    }

    private List<int[]> allTriangles() {
        List<int[]> found = new ArrayList<>();
        for (int i : numbers()) {
            for (int j : numbers()) {
                for (int k : numbers()) {
                    if (i < j && j < k && isTriangle(i, j, k)) {
                        found.add(new int[] {i, j, k});
                    }
                }
            }
        }
        return found;
    }

    private boolean isTriangle(int i, int j, int k) {
        Place[] all = now.points;
        if (Place.side(all[i], all[j], all[k]) == 0) {
            return false;
        }
        List<Integer> rim = new ArrayList<>();
        for (int d : numbers()) {
            int c = circle(all[i], all[j], all[k], all[d]);
            if (c > 0) {
                return false;
            }
            if (c == 0) {
                rim.add(d);
            }
        }
        List<Integer> own = new ArrayList<>(List.of(i, j, k));
        Integer smallest = Collections.min(rim);
        if (!own.remove(smallest)) {
            return false;
        }
        Place one = all[own.get(0)];
        Place other = all[own.get(1)];
        for (int d : rim) {
            if (d != i && d != j && d != k
                && Place.side(one, other, all[d]) != Place.side(one, other, all[smallest])) {
                return false;
            }
        }
        return true;
    }

    public int triangles() {
        return allTriangles().size();
    }

    public int triangle(int t) {
        List<int[]> all = allTriangles();
        if (t < 0 || t >= all.size()) {
            throw noSuch();
        }
        return 100 * all.get(t)[0] + 10 * all.get(t)[1] + all.get(t)[2];
    }

    /** The third POINTS of all TRIANGLES that both are in. */
    private static List<Integer> thirds(List<int[]> all, int i, int j) {
        List<Integer> thirds = new ArrayList<>();
        for (int[] triangle : all) {
            List<Integer> own = new ArrayList<>(List.of(triangle[0], triangle[1], triangle[2]));
            if (own.remove(Integer.valueOf(i)) && own.remove(Integer.valueOf(j))) {
                thirds.add(own.get(0));
            }
        }
        Collections.sort(thirds);
        return thirds;
    }

    public int edges() {
        List<int[]> all = allTriangles();
        int edges = 0;
        for (int i = 0; i < 10; i++) {
            for (int j = i + 1; j < 10; j++) {
                edges += thirds(all, i, j).isEmpty() ? 0 : 1;
            }
        }
        return edges;
    }

    public String paper() {
        List<int[]> all = allTriangles();
        StringBuilder paper = new StringBuilder();
        for (int i = 0; i < 10; i++) {
            for (int j = i + 1; j < 10; j++) {
                List<Integer> thirds = thirds(all, i, j);
                if (thirds.size() == 2) {
                    int c = circle(now.points[i], now.points[j], now.points[thirds.get(0)], now.points[thirds.get(1)]);
                    paper.append(i).append(j).append(thirds.get(0)).append(thirds.get(1));
                    paper.append(c == 0 ? "=" : c < 0 ? "<" : "?");
                }
            }
        }
        return paper.toString();
    }

    private List<Place> region(int k) {
        Place own = point(k);
        List<Figures.Half> halves = Figures.box();
        for (Place other : places()) {
            if (!other.equals(own)) {
                halves.add(Figures.Half.nearer(own, other));
            }
        }
        return Figures.common(halves);
    }

    public int regionSize(int k) {
        return region(k).size();
    }

    public String regionText(int k, int what) {
        point(k);
        askWhat(what, 1);
        return what == 0 ? Figures.area(region(k)).toString() : Place.text(region(k));
    }

    public int piece(int a, int b) {
        Place one = point(a);
        Place other = point(b);
        ask(a != b);
        int k = free(now.pieces);
        state(k != NONE);
        for (Place[] piece : now.pieces) {
            state(piece == null || !List.of(piece).containsAll(List.of(one, other)));
        }
        change();
        now.pieces[k] = new Place[] {one, other};
        return k;
    }

    public int dropPiece(int k) {
        if (k < 0 || k > 7 || now.pieces[k] == null) {
            throw noSuch();
        }
        change();
        now.pieces[k] = null;
        return count(now.pieces);
    }

    private List<Place> meetOf(int i, int j) {
        Place[] one = now.pieces[i];
        Place[] other = now.pieces[j];
        return one == null || other == null ? List.of() : Figures.meet(one[0], one[1], other[0], other[1]);
    }

    private List<Place> allCrossings() {
        List<Place> all = new ArrayList<>();
        for (int i = 0; i < 8; i++) {
            for (int j = i + 1; j < 8; j++) {
                List<Place> meet = meetOf(i, j);
                if (meet.size() == 1 && !all.contains(meet.get(0))) {
                    all.add(meet.get(0));
                }
            }
        }
        Collections.sort(all);
        return all;
    }

    public int crossings() {
        return allCrossings().size();
    }

    private Place crossing(int i) {
        List<Place> all = allCrossings();
        if (i < 0 || i >= all.size()) {
            throw noSuch();
        }
        return all.get(i);
    }

    public String crossText(int i) {
        return crossing(i).toString();
    }

    public int crossSet(int i) {
        Place place = crossing(i);
        int set = 0;
        for (int k = 0; k < 8; k++) {
            Place[] piece = now.pieces[k];
            set += piece != null && Place.isOn(place, piece[0], piece[1]) ? 1 << k : 0;
        }
        return set;
    }

    private List<String> allOverlaps() {
        List<String> all = new ArrayList<>();
        for (int i = 0; i < 8; i++) {
            for (int j = i + 1; j < 8; j++) {
                List<Place> meet = meetOf(i, j);
                if (meet.size() == 2) {
                    all.add(i + "" + j + Collections.min(meet) + Collections.max(meet));
                }
            }
        }
        return all;
    }

    public int overlaps() {
        return allOverlaps().size();
    }

    public String overlapText(int i) {
        List<String> all = allOverlaps();
        if (i < 0 || i >= all.size()) {
            throw noSuch();
        }
        return all.get(i);
    }

    public int corner(int k) {
        Place place = point(k);
        state(now.chain.size() < 8 && !now.chain.contains(place));
        change();
        now.chain = new ArrayList<>(now.chain);
        now.chain.add(place);
        return now.chain.size();
    }

    public int wipe() {
        int count = now.chain.size();
        state(count > 0);
        change();
        now.chain = List.of();
        return count;
    }

    public int fault() {
        int count = now.chain.size();
        if (count < 3) {
            return -2;
        }
        for (int i = 0; i < count; i++) {
            for (int j = i + 1; j < count; j++) {
                Place a = now.chain.get(i);
                Place b = now.chain.get((i + 1) % count);
                Place c = now.chain.get(j);
                Place d = now.chain.get((j + 1) % count);
                List<Place> meet = new ArrayList<>(Figures.meet(a, b, c, d));
                if (a.equals(d)) {
                    meet.remove(a);
                }
                if (b.equals(c)) {
                    meet.remove(b);
                }
                if (!meet.isEmpty()) {
                    return 10 * i + j;
                }
            }
        }
        return NONE;
    }

    public int close() {
        int p = now.polygons.indexOf(null);
        state(p != NONE && fault() == NONE);
        change();
        now.polygons.set(p, Figures.corners(now.chain));
        now.chain = List.of();
        return p;
    }

    private int countPolygons() {
        return count(now.polygons.toArray());
    }

    public int dropPolygon(int p) {
        polygon(p);
        change();
        now.polygons.set(p, null);
        return countPolygons();
    }

    public int ofPolygon(int p, int what) {
        List<Place> ring = polygon(p);
        askWhat(what, 3);
        if (what == 0) {
            return ring.size();
        }
        if (what == 1) {
            int dents = 0;
            for (int i = 0; i < ring.size(); i++) {
                Place before = ring.get((i + ring.size() - 1) % ring.size());
                dents += Place.side(before, ring.get(i), ring.get((i + 1) % ring.size())) < 0 ? 1 : 0;
            }
            return dents;
        }
        boolean isWhole = ring.stream().allMatch(place -> place.x.isWhole() && place.y.isWhole());
        return isWhole ? countWhole(ring, what == 2) : NONE;
    }

    /** Looks at every place of the BOX with whole x and y. */
    private static int countWhole(List<Place> ring, boolean within) {
        int[] xs = ring.stream().mapToInt(place -> place.x.over.intValueExact()).toArray();
        int[] ys = ring.stream().mapToInt(place -> place.y.over.intValueExact()).toArray();
        int inside = 0;
        int rim = 0;
        for (int x = -50; x <= 50; x++) {
            for (int y = -50; y <= 50; y++) {
                boolean isIn = false;
                boolean isOn = false;
                for (int i = 0; i < xs.length; i++) {
                    int j = (i + 1) % xs.length;
                    int side = (xs[j] - xs[i]) * (y - ys[i]) - (ys[j] - ys[i]) * (x - xs[i]);
                    int along = (xs[i] - x) * (xs[j] - x) + (ys[i] - y) * (ys[j] - y);
                    isOn = isOn || side == 0 && along <= 0;
                    if (ys[i] <= y != ys[j] <= y && side > 0 == ys[j] > ys[i]) {
                        isIn = !isIn;
                    }
                }
                rim += isOn ? 1 : 0;
                inside += isIn && !isOn ? 1 : 0;
            }
        }
        return within ? inside : rim;
    }

    public String polygonText(int p, int what) {
        List<Place> ring = polygon(p);
        askWhat(what, 1);
        return what == 0 ? Figures.area(ring).toString() : Place.text(ring);
    }

    public int where(int p, int k) {
        return Figures.position(polygon(p), point(k));
    }

    public int blend(int p, int q, int op, int what) {
        List<Place> one = polygon(p);
        List<Place> other = polygon(q);
        askWhat(op, 3);
        askWhat(what, 3);
        return new Shards(one, other, op).tell(what);
    }

    public String blendArea(int p, int q, int op) {
        List<Place> one = polygon(p);
        List<Place> other = polygon(q);
        askWhat(op, 3);
        Num shared = Figures.sharedArea(one, other);
        Num first = Figures.area(one);
        Num both = first.plus(Figures.area(other));
        Num[] areas = {both.minus(shared), shared, first.minus(shared), both.minus(shared).minus(shared)};
        return areas[op].toString();
    }

    public int join(int p, int q, int op) {
        List<Place> one = polygon(p);
        List<Place> other = polygon(q);
        askWhat(op, 3);
        int k = now.polygons.indexOf(null);
        state(k != NONE);
        List<Place> ring = new Shards(one, other, op).polygon();
        state(ring != null);
        change();
        now.polygons.set(k, ring);
        return k;
    }

    public int cut(int p, int a, int b) {
        List<Place> ring = polygon(p);
        Place from = point(a);
        Place to = point(b);
        ask(a != b);
        List<Figures.Half> halves = Figures.box();
        halves.add(Figures.Half.leftOf(from, to));
        List<Place> halfBox = Figures.common(halves);
        List<Place> left = halfBox.size() < 3 ? null : new Shards(ring, halfBox, 1).polygon();
        state(left != null);
        change();
        now.polygons.set(p, left);
        return left.size();
    }

    public String cutArea(int p, int a, int b) {
        List<Place> ring = polygon(p);
        Place from = point(a);
        Place to = point(b);
        ask(a != b);
        return Figures.area(Figures.clip(ring, Figures.Half.leftOf(from, to))).toString();
    }

    private int move(int p, List<Place> moved) {
        List<Place> corners = Figures.corners(moved);
        int gone = 0;
        for (Place corner : now.polygons.get(p)) {
            gone += corners.contains(corner) ? 0 : 1;
        }
        change();
        now.polygons.set(p, corners);
        return gone;
    }

    public int swing(int p, int k, int m, int n) {
        List<Place> ring = polygon(p);
        Place centre = point(k);
        ask(m >= 1 && m <= 6 && n >= -6 && n <= 6);
        List<Place> moved = new ArrayList<>();
        ring.forEach(place -> moved.add(place.turned(centre, m, n)));
        state(moved.stream().allMatch(place -> place.isInBox() && !place.isTooFine()));
        return move(p, moved);
    }

    public int shift(int p, int dx, int dy) {
        List<Place> ring = polygon(p);
        ask(dx >= -100 && dx <= 100 && dy >= -100 && dy <= 100);
        List<Place> moved = new ArrayList<>();
        ring.forEach(place -> moved.add(place.plus(new Place(Num.of(dx), Num.of(dy)))));
        state(moved.stream().allMatch(Place::isInBox));
        return move(p, moved);
    }

    public int half(int a, int b) {
        Place from = point(a);
        Place to = point(b);
        ask(a != b);
        int k = free(now.halves);
        state(k != NONE);
        change();
        now.halves[k] = new Place[] {from, to};
        return k;
    }

    public int dropHalf(int k) {
        if (k < 0 || k > 5 || now.halves[k] == null) {
            throw noSuch();
        }
        change();
        now.halves[k] = null;
        return count(now.halves);
    }

    /** The ROOM that these HALFPLANES leave (by their set). */
    private List<Place> room(int set) {
        List<Figures.Half> halves = Figures.box();
        for (int k = 0; k < 6; k++) {
            if ((set >> k & 1) == 1) {
                halves.add(Figures.Half.leftOf(now.halves[k][0], now.halves[k][1]));
            }
        }
        return Figures.common(halves);
    }

    private List<Place> room() {
        return room(set(now.halves));
    }

    public int roomSize() {
        return room().size();
    }

    public String roomText(int what) {
        askWhat(what, 1);
        return what == 0 ? Figures.area(room()).toString() : Place.text(room());
    }

    public int barring() {
        if (!room().isEmpty()) {
            return 0;
        }
        int all = set(now.halves);
        String best = null;
        int found = 0;
        for (int set = 1; set < 64; set++) {
            if ((set & ~all) == 0 && Integer.bitCount(set) <= 3 && room(set).isEmpty()) {
                StringBuilder name = new StringBuilder().append(Integer.bitCount(set));
                for (int k = 0; k < 6; k++) {
                    name.append((set >> k & 1) == 1 ? String.valueOf(k) : "");
                }
                if (best == null || name.toString().compareTo(best) < 0) {
                    best = name.toString();
                    found = set;
                }
            }
        }
        return found;
    }

    private Place pointIn(List<Place> ring, int k) {
        state(Figures.position(ring, point(k)) >= 0);
        return point(k);
    }

    public boolean sees(int p, int a, int b) {
        List<Place> ring = polygon(p);
        point(a);
        point(b);
        return new Paths(ring).sees(pointIn(ring, a), pointIn(ring, b));
    }

    public int seen(int p, int a) {
        List<Place> ring = polygon(p);
        point(a);
        Place own = pointIn(ring, a);
        int set = 0;
        for (int i = 0; i < ring.size(); i++) {
            set += new Paths(ring).sees(own, ring.get(i)) ? 1 << i : 0;
        }
        return set;
    }

    public String wayText(int p, int a, int b) {
        List<Place> ring = polygon(p);
        point(a);
        point(b);
        StringBuilder text = new StringBuilder();
        new Paths(ring).bends(pointIn(ring, a), pointIn(ring, b)).forEach(bend -> text.append("/").append(bend));
        return text.toString();
    }

    public int wayLength(int p, int a, int b) {
        List<Place> ring = polygon(p);
        point(a);
        point(b);
        return new Paths(ring).thousandfold(pointIn(ring, a), pointIn(ring, b));
    }

    public int longer(int p, int a, int b, int c, int d) {
        List<Place> ring = polygon(p);
        for (int k : new int[] {a, b, c, d}) {
            point(k);
        }
        return new Paths(ring).compareLengths(pointIn(ring, a), pointIn(ring, b), pointIn(ring, c), pointIn(ring, d));
    }

    public int undo() {
        state(!past.isEmpty());
        now = past.pop();
        return past.size();
    }

    public int plane(int what) {
        askWhat(what, 6);
        int[] all = {set(now.points), set(now.pieces), set(now.polygons.toArray()), set(now.halves),
            now.chain.size(), past.size(), knocks};
        return all[what];
    }

    public int knock() {
        return ++knocks;
    }

    public boolean isSound() {
        return true;
    }

    public long digest() {
        long[] d = {5604};
        for (int what = 0; what <= 6; what++) {
            feed(d, plane(what));
        }
        for (int k : numbers()) {
            feed(d, pointText(k));
        }
        feed(d, hullSize());
        feed(d, hullText(0));
        feed(d, hullText(1));
        feed(d, flattest());
        for (int what = 0; what <= 3; what++) {
            feed(d, pairOf(what));
        }
        feed(d, leastSet());
        feed(d, leastText(0));
        feed(d, leastText(1));
        feed(d, triangles());
        feed(d, edges());
        feed(d, paper());
        feed(d, crossings());
        feed(d, overlaps());
        for (int i = 0; i < crossings(); i++) {
            feed(d, crossText(i));
            feed(d, crossSet(i));
        }
        for (int p = 0; p < 4; p++) {
            if (now.polygons.get(p) != null) {
                for (int what = 0; what <= 3; what++) {
                    feed(d, ofPolygon(p, what));
                }
                feed(d, polygonText(p, 0));
                feed(d, polygonText(p, 1));
            }
        }
        feed(d, fault());
        feed(d, roomSize());
        feed(d, roomText(0));
        feed(d, roomText(1));
        feed(d, barring());
        feed(d, isSound() ? 1 : 0);
        return d[0];
    }

    private static void feed(long[] d, long value) {
        d[0] = d[0] * 31 + value;
    }

    private static void feed(long[] d, String text) {
        for (char sign : text.toCharArray()) {
            feed(d, sign);
        }
        feed(d, 10);
    }
}
