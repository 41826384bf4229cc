/**
 * A plane without a comma: POINTS, PIECES, POLYGONS and HALFPLANES at places that are told by whole
 * numbers and fractions; nothing is ever rounded. ../shared/DOC.md says what each call does.
 */
public final class Nocommaplane {
    private static final int NONE = -1;
    private static final int POINTS = 0;
    private static final int PIECES = 1;
    private static final int POLYGONS = 2;
    private static final int HALVES = 3;
    private static final int REACH = 50;
    private static final int CHAIN_LIMIT = 8;

    private final StringBuilder page = new StringBuilder();
    private final Sheet sheet = new Sheet();
    private final Reckoner num = new Reckoner();
    private final Places places = new Places(num, sheet);
    private final Mesh mesh = new Mesh(places);
    private final Swarm swarm = new Swarm(places, mesh);
    private final Bundle bundle = new Bundle(places);
    private final Ring ring = new Ring(places);
    private final Blend shards = new Blend(places);
    private final Ways ways = new Ways(places);
    private int knocks;

    public Nocommaplane() {
        knocks = 0;
    }

    public int put(int xn, int xd, int yn, int yd) throws IllegalArgumentException, IllegalStateException {
        if (xd < 1 || xd > 12 || yd < 1 || yd > 12 || isBeyond(xn, xd) || isBeyond(yn, yd)) {
            throw new IllegalArgumentException("no such PLACE");
        }
        long x = Reckoner.gcdOf(xn, xd);
        long y = Reckoner.gcdOf(yn, yd);
        int draft = sheet.draftPlace(0);
        if (x > 0 && y > 0) {
            sheet.write(draft, xn / x, xd / x, yn / y, yd / y);
        }
        int k = sheet.free(POINTS);
        if (k == NONE || hasPointAt(draft)) {
            throw new IllegalStateException("ten POINTS, or one at that PLACE");
        }
        change();
        int spot = sheet.spot(POINTS, k);
        sheet.set(spot, 1);
        sheet.copyPlace(draft, spot + 1);
        return k;
    }

    private static boolean isBeyond(long over, long under) {
        return Math.abs(over) > REACH * under;
    }

    private boolean hasPointAt(int place) {
        for (int k = 0; k < sheet.limit(POINTS); k++) {
            if (sheet.has(POINTS, k) && sheet.samePlace(sheet.spot(POINTS, k) + 1, place)) {
                return true;
            }
        }
        return false;
    }

    public int take(int k) throws IndexOutOfBoundsException {
        needPoint(k);
        return drop(POINTS, k);
    }

    public int turn(int centre, int m, int n)
        throws IndexOutOfBoundsException, IllegalArgumentException, IllegalStateException {
        needPoint(centre);
        needTurn(m, n);
        places.begin();
        for (int k = 0; k < sheet.limit(POINTS); k++) {
            if (sheet.has(POINTS, k) && !places.store(places.turned(k, centre, m, n), sheet.draftPlace(k))) {
                throw new IllegalStateException("a POINT would leave the BOX or be TOO FINE");
            }
        }
        change();
        int moved = 0;
        for (int k = 0; k < sheet.limit(POINTS); k++) {
            int place = sheet.spot(POINTS, k) + 1;
            if (sheet.has(POINTS, k) && !sheet.samePlace(place, sheet.draftPlace(k))) {
                sheet.copyPlace(sheet.draftPlace(k), place);
                moved++;
            }
        }
        return moved;
    }

    public String pointText(int k) throws IndexOutOfBoundsException {
        needPoint(k);
        begin();
        places.write(page, k);
        return page.toString();
    }

    public String square(int a, int b) throws IndexOutOfBoundsException {
        needPoint(a);
        needPoint(b);
        begin();
        num.writeFraction(page, places.squareOver(a, b), places.squareUnder(a, b));
        return page.toString();
    }

    public int side(int a, int b, int c) throws IndexOutOfBoundsException {
        needPoint(a);
        needPoint(b);
        needPoint(c);
        begin();
        return places.sideOf(a, b, c);
    }

    public int circle(int a, int b, int c, int d) throws IndexOutOfBoundsException, IllegalStateException {
        needPoint(a);
        needPoint(b);
        needPoint(c);
        needPoint(d);
        begin();
        if (places.sideOf(a, b, c) == 0) {
            throw new IllegalStateException("three POINTS in a line");
        }
        mesh.lift(a);
        mesh.through(b, c);
        return mesh.at(d);
    }

    public int hullSize() {
        begin();
        return swarm.findHull();
    }

    public int hullAt(int i) throws IndexOutOfBoundsException {
        begin();
        if (i < 0 || i >= swarm.findHull()) {
            throw new IndexOutOfBoundsException("no such CORNER");
        }
        return swarm.cornerAt(i);
    }

    public String hullText(int what) throws IllegalArgumentException {
        needWhat(what, 1);
        begin();
        swarm.findHull();
        swarm.writeHull(page, what);
        return page.toString();
    }

    public int flattest() {
        begin();
        swarm.findHull();
        return swarm.findFlattest();
    }

    public int pairOf(int what) throws IllegalArgumentException {
        needWhat(what, 3);
        begin();
        swarm.findPairs();
        return swarm.pair(what);
    }

    public int leastSet() {
        begin();
        return swarm.findHolders();
    }

    public String leastText(int what) throws IllegalArgumentException {
        needWhat(what, 1);
        begin();
        swarm.findHolders();
        swarm.writeLeast(page, what);
        return page.toString();
    }

    public int triangles() {
        begin();
        mesh.find();
        return mesh.count();
    }

    public int triangle(int t) throws IndexOutOfBoundsException {
        begin();
        mesh.find();
        if (t < 0 || t >= mesh.count()) {
            throw new IndexOutOfBoundsException("no such TRIANGLE");
        }
        return mesh.get(t);
    }

    public int edges() {
        begin();
        mesh.find();
        return mesh.countEdges();
    }

    public String paper() {
        begin();
        mesh.find();
        mesh.writePaper(page);
        return page.toString();
    }

    public int regionSize(int k) throws IndexOutOfBoundsException {
        needPoint(k);
        begin();
        ring.makeRegion(k);
        return ring.size();
    }

    public String regionText(int k, int what) throws IndexOutOfBoundsException, IllegalArgumentException {
        needPoint(k);
        needWhat(what, 1);
        begin();
        ring.makeRegion(k);
        writeRing(what);
        return page.toString();
    }

    public int piece(int a, int b)
        throws IndexOutOfBoundsException, IllegalArgumentException, IllegalStateException {
        needPoint(a);
        needPoint(b);
        needTwo(a, b);
        int k = sheet.free(PIECES);
        if (k == NONE || hasPieceBetween(sheet.spot(POINTS, a) + 1, sheet.spot(POINTS, b) + 1)) {
            throw new IllegalStateException("eight PIECES, or one with these ends");
        }
        return draw(PIECES, k, a, b);
    }

    private boolean hasPieceBetween(int one, int other) {
        for (int k = 0; k < sheet.limit(PIECES); k++) {
            int from = sheet.spot(PIECES, k) + 1;
            int to = from + 4;
            if (sheet.has(PIECES, k)
                && (sheet.samePlace(from, one) && sheet.samePlace(to, other)
                || sheet.samePlace(from, other) && sheet.samePlace(to, one))) {
                return true;
            }
        }
        return false;
    }

    /** Draws a PIECE or a HALFPLANE from POINT to POINT. */
    private int draw(int kind, int k, int a, int b) {
        change();
        int spot = sheet.spot(kind, k);
        sheet.set(spot, 1);
        sheet.copyPlace(sheet.spot(POINTS, a) + 1, spot + 1);
        sheet.copyPlace(sheet.spot(POINTS, b) + 1, spot + 5);
        return k;
    }

    public int dropPiece(int k) throws IndexOutOfBoundsException {
        need(PIECES, k);
        return drop(PIECES, k);
    }

    public int crossings() {
        begin();
        bundle.find();
        return bundle.count();
    }

    public String crossText(int i) throws IndexOutOfBoundsException {
        needCrossing(i);
        places.write(page, bundle.crossing(i));
        return page.toString();
    }

    public int crossSet(int i) throws IndexOutOfBoundsException {
        needCrossing(i);
        return bundle.set(i);
    }

    private void needCrossing(int i) {
        begin();
        bundle.find();
        if (i < 0 || i >= bundle.count()) {
            throw new IndexOutOfBoundsException("no such CROSSING");
        }
    }

    public int overlaps() {
        begin();
        bundle.find();
        return bundle.overlapCount();
    }

    public String overlapText(int i) throws IndexOutOfBoundsException {
        begin();
        bundle.find();
        if (i < 0 || i >= bundle.overlapCount()) {
            throw new IndexOutOfBoundsException("no such OVERLAP");
        }
        bundle.writeOverlap(page, i);
        return page.toString();
    }

    public int corner(int k) throws IndexOutOfBoundsException, IllegalStateException {
        needPoint(k);
        int count = sheet.chainSize();
        int place = sheet.spot(POINTS, k) + 1;
        if (count >= CHAIN_LIMIT || sheet.among(sheet.chainPlace(0), count, place)) {
            throw new IllegalStateException("eight PLACES in the CHAIN, or that one");
        }
        change();
        sheet.copyPlace(place, sheet.chainPlace(count));
        sheet.set(Sheet.CHAIN_AT, count + 1);
        return count + 1;
    }

    public int wipe() throws IllegalStateException {
        int count = sheet.chainSize();
        if (count == 0) {
            throw new IllegalStateException("the CHAIN is empty");
        }
        change();
        sheet.set(Sheet.CHAIN_AT, 0);
        return count;
    }

    public int fault() {
        begin();
        return bundle.findFault();
    }

    public int close() throws IllegalStateException {
        begin();
        int p = sheet.free(POLYGONS);
        if (p == NONE || bundle.findFault() != NONE) {
            throw new IllegalStateException("four POLYGONS, or a FAULT in the CHAIN");
        }
        int count = sheet.chainSize();
        int corners = shards.draftRow(places.loadRow(sheet.chainPlace(0), count), count);
        change();
        sheet.set(Sheet.CHAIN_AT, 0);
        keepDraft(p, corners);
        return p;
    }

    public int dropPolygon(int p) throws IndexOutOfBoundsException {
        need(POLYGONS, p);
        return drop(POLYGONS, p);
    }

    public int ofPolygon(int p, int what) throws IndexOutOfBoundsException, IllegalArgumentException {
        need(POLYGONS, p);
        needWhat(what, 3);
        begin();
        enter(p);
        return countOfPolygon(p, what);
    }

    /** The polygon must be entered. */
    private int countOfPolygon(int p, int what) {
        int count = cornerCount(p);
        if (what == 0) {
            return count;
        }
        return what == 1 ? ways.countDents() : countWholePlaces(cornerPlace(p), count, what == 2);
    }

    /** Of a polygon with whole corners the rim's places are told by its sides, those within by its AREA then. */
    private int countWholePlaces(int first, int count, boolean within) {
        long twice = 0;
        long rim = 0;
        for (int i = 0; i < count; i++) {
            int a = first + 4 * i;
            int b = i + 1 < count ? a + 4 : first;
            if (sheet.at(a + 1) != 1 || sheet.at(a + 3) != 1) {
                return NONE;
            }
            twice += sheet.at(a) * sheet.at(b + 2) - sheet.at(a + 2) * sheet.at(b);
            rim += Reckoner.gcdOf(sheet.at(b) - sheet.at(a), sheet.at(b + 2) - sheet.at(a + 2));
        }
        return (int) (within ? (twice - rim + 2) / 2 : rim);
    }

    public String polygonText(int p, int what) throws IndexOutOfBoundsException, IllegalArgumentException {
        need(POLYGONS, p);
        needWhat(what, 1);
        begin();
        writePolygon(p, what);
        return page.toString();
    }

    private void writePolygon(int p, int what) {
        int count = cornerCount(p);
        int first = loadPolygon(p);
        if (what == 0) {
            num.startSum();
            places.addPolygon(first, count);
            places.writeHalfSum(page);
            return;
        }
        for (int i = 0; i < count; i++) {
            places.write(page, first + i);
        }
    }

    public int where(int p, int k) throws IndexOutOfBoundsException {
        need(POLYGONS, p);
        needPoint(k);
        begin();
        return places.position(loadPolygon(p), cornerCount(p), k);
    }

    public int blend(int p, int q, int op, int what) throws IndexOutOfBoundsException, IllegalArgumentException {
        need(POLYGONS, p);
        need(POLYGONS, q);
        needWhat(op, 3);
        needWhat(what, 3);
        begin();
        makeBlend(p, q, op);
        return shards.tell(what);
    }

    public String blendArea(int p, int q, int op) throws IndexOutOfBoundsException, IllegalArgumentException {
        need(POLYGONS, p);
        need(POLYGONS, q);
        needWhat(op, 3);
        begin();
        makeBlend(p, q, op);
        shards.sumArea();
        places.writeHalfSum(page);
        return page.toString();
    }

    private void makeBlend(int p, int q, int op) {
        int first = loadPolygon(p);
        shards.make(first, cornerCount(p), loadPolygon(q), cornerCount(q), op);
    }

    public int join(int p, int q, int op)
        throws IndexOutOfBoundsException, IllegalArgumentException, IllegalStateException {
        need(POLYGONS, p);
        need(POLYGONS, q);
        needWhat(op, 3);
        int k = sheet.free(POLYGONS);
        if (k == NONE) {
            throw new IllegalStateException("four POLYGONS");
        }
        begin();
        makeBlend(p, q, op);
        keepBlend(k, shards.draft());
        return k;
    }

    /** Makes a POLYGON of the BLEND that was found last. */
    private int keepBlend(int p, int count) {
        if (count == NONE) {
            throw new IllegalStateException("that is no POLYGON");
        }
        change();
        keepDraft(p, count);
        return count;
    }

    public int cut(int p, int a, int b)
        throws IndexOutOfBoundsException, IllegalArgumentException, IllegalStateException {
        needCut(p, a, b);
        begin();
        makeCut(p, a, b);
        return keepBlend(p, shards.draft());
    }

    public String cutArea(int p, int a, int b) throws IndexOutOfBoundsException, IllegalArgumentException {
        needCut(p, a, b);
        begin();
        makeCut(p, a, b);
        shards.sumArea();
        places.writeHalfSum(page);
        return page.toString();
    }

    private void needCut(int p, int a, int b) {
        need(POLYGONS, p);
        needPoint(a);
        needPoint(b);
        needTwo(a, b);
    }

    private void makeCut(int p, int a, int b) {
        int first = loadPolygon(p);
        ring.makeHalfBox(a, b);
        Row corners = ring.corners();
        if (corners.size() < 3) {
            shards.clear();
            return;
        }
        int firstOfHalf = places.size();
        for (int i = 0; i < corners.size(); i++) {
            int k = corners.get(i);
            places.add(places.x(k), places.y(k), places.w(k));
        }
        shards.make(first, cornerCount(p), firstOfHalf, corners.size(), 1);
    }

    public int swing(int p, int k, int m, int n)
        throws IndexOutOfBoundsException, IllegalArgumentException, IllegalStateException {
        need(POLYGONS, p);
        needPoint(k);
        needTurn(m, n);
        begin();
        int count = cornerCount(p);
        int first = loadPolygon(p);
        for (int i = 0; i < count; i++) {
            places.turned(first + i, k, m, n);
        }
        int corners = shards.draftRow(first + count, count);
        if (corners == NONE) {
            throw new IllegalStateException("a CORNER would leave the BOX or be TOO FINE");
        }
        return move(p, corners);
    }

    public int shift(int p, int dx, int dy)
        throws IndexOutOfBoundsException, IllegalArgumentException, IllegalStateException {
        need(POLYGONS, p);
        if (dx < -100 || dx > 100 || dy < -100 || dy > 100) {
            throw new IllegalArgumentException("too far");
        }
        int count = cornerCount(p);
        for (int i = 0; i < count; i++) {
            int from = cornerPlace(p) + 4 * i;
            long xd = sheet.at(from + 1);
            long yd = sheet.at(from + 3);
            long xn = sheet.at(from) + dx * xd;
            long yn = sheet.at(from + 2) + dy * yd;
            if (isBeyond(xn, xd) || isBeyond(yn, yd)) {
                throw new IllegalStateException("a CORNER would leave the BOX");
            }
            sheet.write(sheet.draftPlace(i), xn, xd, yn, yd);
        }
        return move(p, count);
    }

    /** Puts a POLYGON where the draft says; answers how many CORNERS it left. */
    private int move(int p, int count) {
        int moved = 0;
        for (int i = 0; i < count; i++) {
            moved += sheet.among(sheet.draftPlace(0), count, cornerPlace(p) + 4 * i) ? 0 : 1;
        }
        change();
        keepDraft(p, count);
        return moved;
    }

    public int half(int a, int b)
        throws IndexOutOfBoundsException, IllegalArgumentException, IllegalStateException {
        needPoint(a);
        needPoint(b);
        needTwo(a, b);
        int k = sheet.free(HALVES);
        if (k == NONE) {
            throw new IllegalStateException("six HALFPLANES");
        }
        return draw(HALVES, k, a, b);
    }

    public int dropHalf(int k) throws IndexOutOfBoundsException {
        need(HALVES, k);
        return drop(HALVES, k);
    }

    public int roomSize() {
        begin();
        ring.makeRoom();
        return ring.size();
    }

    public String roomText(int what) throws IllegalArgumentException {
        needWhat(what, 1);
        begin();
        ring.makeRoom();
        writeRing(what);
        return page.toString();
    }

    private void writeRing(int what) {
        if (what == 0) {
            ring.writeArea(page);
        } else {
            places.writeRow(page, ring.corners());
        }
    }

    public int barring() {
        begin();
        return ring.bars();
    }

    public boolean sees(int p, int a, int b) throws IndexOutOfBoundsException, IllegalStateException {
        need(POLYGONS, p);
        needPoint(a);
        needPoint(b);
        begin();
        enter(p);
        needWithin(a);
        needWithin(b);
        return ways.see(a, b);
    }

    public int seen(int p, int a) throws IndexOutOfBoundsException, IllegalStateException {
        need(POLYGONS, p);
        needPoint(a);
        begin();
        int first = enter(p);
        needWithin(a);
        int set = 0;
        for (int i = 0; i < cornerCount(p); i++) {
            set |= ways.see(a, first + i) ? 1 << i : 0;
        }
        return set;
    }

    public String wayText(int p, int a, int b) throws IndexOutOfBoundsException, IllegalStateException {
        need(POLYGONS, p);
        needPoint(a);
        needPoint(b);
        begin();
        enter(p);
        needWithin(a);
        needWithin(b);
        ways.find(a, b);
        ways.writeBends(page);
        return page.toString();
    }

    public int wayLength(int p, int a, int b) throws IndexOutOfBoundsException, IllegalStateException {
        need(POLYGONS, p);
        needPoint(a);
        needPoint(b);
        begin();
        enter(p);
        needWithin(a);
        needWithin(b);
        ways.clearRoots();
        ways.find(a, b);
        ways.addLength(a, b, 1);
        return ways.thousandfold();
    }

    public int longer(int p, int a, int b, int c, int d) throws IndexOutOfBoundsException, IllegalStateException {
        need(POLYGONS, p);
        needPoint(a);
        needPoint(b);
        needPoint(c);
        needPoint(d);
        begin();
        enter(p);
        needWithin(a);
        needWithin(b);
        needWithin(c);
        needWithin(d);
        ways.clearRoots();
        ways.find(a, b);
        ways.addLength(a, b, 1);
        ways.find(c, d);
        ways.addLength(c, d, -1);
        return ways.signOfRoots();
    }

    public int undo() throws IllegalStateException {
        if (sheet.changes() == 0) {
            throw new IllegalStateException("no CHANGE is remembered");
        }
        sheet.goBack();
        forget();
        return sheet.changes();
    }

    public int plane(int what) throws IllegalArgumentException {
        needWhat(what, 6);
        if (what < 4) {
            return sheet.setOf(what);
        }
        if (what == 4) {
            return sheet.chainSize();
        }
        return what == 5 ? sheet.changes() : knocks;
    }

    public int knock() {
        knocks++;
        return knocks;
    }

    public boolean isSound() {
        return mesh.fits() && ring.fillBox() && bundle.fits() && blendsFit();
    }

    /** Whether JOIN and MEET of the first two POLYGONS have their AREAS together. */
    private boolean blendsFit() {
        int p = NONE;
        int q = NONE;
        for (int k = sheet.limit(POLYGONS) - 1; k >= 0; k--) {
            if (sheet.has(POLYGONS, k)) {
                q = p;
                p = k;
            }
        }
        if (q == NONE) {
            return true;
        }
        begin();
        int first = loadPolygon(p);
        int second = loadPolygon(q);
        shards.make(first, cornerCount(p), second, cornerCount(q), 0);
        shards.sumArea();
        int over = num.sumOver();
        int under = num.sumUnder();
        shards.make(first, cornerCount(p), second, cornerCount(q), 1);
        shards.sumArea();
        int meetOver = num.sumOver();
        int meetUnder = num.sumUnder();
        num.startSum();
        places.addPolygon(first, cornerCount(p));
        places.addPolygon(second, cornerCount(q));
        int blends = num.add(num.mul(over, meetUnder), num.mul(meetOver, under), 1);
        int own = num.mul(num.mul(under, meetUnder), num.sumOver());
        return num.compare(num.mul(blends, num.sumUnder()), own) == 0;
    }

    public long digest() {
        long d = 5604;
        for (int what = 0; what <= 6; what++) {
            d = fed(d, plane(what));
        }
        begin();
        swarm.findHolders();
        d = feedPoints(d);
        begin();
        mesh.find();
        d = fed(d, mesh.count());
        d = fed(d, mesh.countEdges());
        mesh.writePaper(page);
        d = feedPage(d);
        begin();
        bundle.find();
        d = feedPieces(d);
        d = feedPolygons(d);
        begin();
        d = fed(d, bundle.findFault());
        begin();
        d = feedRoom(d);
        d = fed(d, ring.bars());
        boolean sound = mesh.fits() && ring.fillBox() && bundle.fits() && blendsFit();
        return fed(d, sound ? 1 : 0);
    }

    private static long fed(long d, long value) {
        return d * 31 + value;
    }

    /** Feeds the digest with what stands on the page, and clears it. */
    private long feedPage(long d) {
        long e = d;
        for (int i = 0; i < page.length(); i++) {
            e = fed(e, page.charAt(i));
        }
        page.setLength(0);
        return fed(e, 10);
    }

    private long feedPoints(long d) {
        long e = d;
        for (int k = 0; k < sheet.limit(POINTS); k++) {
            if (sheet.has(POINTS, k)) {
                places.write(page, k);
                e = feedPage(e);
            }
        }
        e = fed(e, swarm.countCorners());
        swarm.writeHull(page, 0);
        e = feedPage(e);
        swarm.writeHull(page, 1);
        e = feedPage(e);
        e = fed(e, swarm.findFlattest());
        swarm.findPairs();
        for (int what = 0; what <= 3; what++) {
            e = fed(e, swarm.pair(what));
        }
        e = fed(e, swarm.holderSet());
        swarm.writeLeast(page, 0);
        e = feedPage(e);
        swarm.writeLeast(page, 1);
        return feedPage(e);
    }

    private long feedPieces(long d) {
        long e = fed(d, bundle.count());
        e = fed(e, bundle.overlapCount());
        for (int i = 0; i < bundle.count(); i++) {
            places.write(page, bundle.crossing(i));
            e = fed(feedPage(e), bundle.set(i));
        }
        return e;
    }

    private long feedPolygons(long d) {
        long e = d;
        for (int p = 0; p < sheet.limit(POLYGONS); p++) {
            if (sheet.has(POLYGONS, p)) {
                begin();
                enter(p);
                for (int what = 0; what <= 3; what++) {
                    e = fed(e, countOfPolygon(p, what));
                }
                writePolygon(p, 0);
                e = feedPage(e);
                writePolygon(p, 1);
                e = feedPage(e);
            }
        }
        return e;
    }

    private long feedRoom(long d) {
        ring.makeRoom();
        long e = fed(d, ring.size());
        ring.writeArea(page);
        e = feedPage(e);
        places.writeRow(page, ring.corners());
        return feedPage(e);
    }

    /** Begins a call that looks at places or writes a text. */
    private void begin() {
        page.setLength(0);
        places.begin();
    }

    /** Ahead of every CHANGE: what stands is remembered, what was found is out of date. */
    private void change() {
        sheet.remember();
        forget();
    }

    private void forget() {
        places.forget();
        mesh.forget();
    }

    private int drop(int kind, int k) {
        change();
        sheet.set(sheet.spot(kind, k), 0);
        return sheet.count(kind);
    }

    private int cornerCount(int p) {
        return (int) sheet.at(sheet.spot(POLYGONS, p));
    }

    private int cornerPlace(int p) {
        return sheet.spot(POLYGONS, p) + 1;
    }

    private int loadPolygon(int p) {
        return places.loadRow(cornerPlace(p), cornerCount(p));
    }

    private int enter(int p) {
        int first = loadPolygon(p);
        ways.enter(first, cornerCount(p));
        return first;
    }

    private void keepDraft(int p, int count) {
        sheet.set(sheet.spot(POLYGONS, p), count);
        for (int i = 0; i < count; i++) {
            sheet.copyPlace(sheet.draftPlace(i), cornerPlace(p) + 4 * i);
        }
    }

    private void needPoint(int k) {
        if (!sheet.has(POINTS, k)) {
            throw new IndexOutOfBoundsException("no such POINT");
        }
    }

    private void need(int kind, int k) {
        if (!sheet.has(kind, k)) {
            throw new IndexOutOfBoundsException("no such thing");
        }
    }

    private static void needWhat(int what, int last) {
        if (what < 0 || what > last) {
            throw new IllegalArgumentException("no such question");
        }
    }

    private static void needTwo(int a, int b) {
        if (a == b) {
            throw new IllegalArgumentException("both are the same");
        }
    }

    private static void needTurn(int m, int n) {
        if (m < 1 || m > 6 || n < -6 || n > 6) {
            throw new IllegalArgumentException("no such TURN");
        }
    }

    private void needWithin(int k) {
        if (!ways.holds(k)) {
            throw new IllegalStateException("a POINT is outside of the POLYGON");
        }
    }

    /** A row of whole numbers with a fixed room; what is beyond it is neither read nor written. */
    private static final class Row {
        private final int[] cells;
        private int count;

        Row(int room) {
            cells = new int[room > 0 ? room : 1];
        }

        int size() {
            return count;
        }

        void clear() {
            count = 0;
        }

        void shorten(int size) {
            if (size >= 0 && size < count) {
                count = size;
            }
        }

        int get(int i) {
            return i >= 0 && i < count && i < cells.length ? cells[i] : NONE;
        }

        void set(int i, int value) {
            if (i >= 0 && i < count && i < cells.length) {
                cells[i] = value;
            }
        }

        void add(int value) {
            if (count >= 0 && count < cells.length) {
                cells[count] = value;
                count++;
            }
        }

        void insert(int i, int value) {
            add(value);
            for (int k = count - 1; k > i && k > 0 && k < cells.length; k--) {
                cells[k] = cells[k - 1];
            }
            set(i, value);
        }

        void fill(int size, int value) {
            count = 0;
            for (int i = 0; i < size && i < cells.length; i++) {
                cells[i] = value;
                count = i + 1;
            }
        }

        void copy(Row from) {
            count = 0;
            for (int i = 0; i < from.count && i < from.cells.length && i < cells.length; i++) {
                cells[i] = from.cells[i];
                count = i + 1;
            }
        }

        /** The one after i, as in a ring. */
        int after(int i) {
            return get(i + 1 < count ? i + 1 : 0);
        }

        /** The one before i, as in a ring. */
        int before(int i) {
            return get(i > 0 ? i - 1 : count - 1);
        }

        void turnRound() {
            for (int i = 0, k = count - 1; i < k && i >= 0 && k < cells.length; i++, k--) {
                int kept = cells[i];
                cells[i] = cells[k];
                cells[k] = kept;
            }
        }
    }

    /** All that stands in the plane, as one row of numbers, and the last few such rows for undo(). */
    private static final class Sheet {
        private static final int PAST = 5;
        private static final int CHAIN_AT = 122;
        private static final int TOTAL = 405;
        private static final int DRAFT_AT = 405;
        private static final int LENGTH = 453;
        private static final int[] KIND_AT = {0, 50, 155, 351};
        private static final int[] KIND_SIZE = {5, 9, 49, 9};
        private static final int[] KIND_LIMIT = {10, 8, 4, 6};

        private final long[] cells = new long[LENGTH];
        private final long[] past = new long[PAST * TOTAL];
        private int newest;
        private int remembered;

        long at(int i) {
            return i >= 0 && i < cells.length ? cells[i] : 0;
        }

        void set(int i, long value) {
            if (i >= 0 && i < cells.length) {
                cells[i] = value;
            }
        }

        int limit(int kind) {
            return kind >= 0 && kind < KIND_LIMIT.length ? KIND_LIMIT[kind] : 0;
        }

        /** Where a thing begins: there is what marks it as there, and its places follow. */
        int spot(int kind, int k) {
            if (kind < 0 || kind >= KIND_AT.length || kind >= KIND_SIZE.length) {
                return NONE;
            }
            return KIND_AT[kind] + k * KIND_SIZE[kind];
        }

        boolean has(int kind, int k) {
            return k >= 0 && k < limit(kind) && at(spot(kind, k)) != 0;
        }

        int free(int kind) {
            for (int k = 0; k < limit(kind); k++) {
                if (!has(kind, k)) {
                    return k;
                }
            }
            return NONE;
        }

        int setOf(int kind) {
            int set = 0;
            for (int k = 0; k < limit(kind); k++) {
                set |= has(kind, k) ? 1 << k : 0;
            }
            return set;
        }

        int count(int kind) {
            return Integer.bitCount(setOf(kind));
        }

        int chainSize() {
            return (int) at(CHAIN_AT);
        }

        int chainPlace(int i) {
            return CHAIN_AT + 1 + 4 * i;
        }

        int draftPlace(int i) {
            return DRAFT_AT + 4 * i;
        }

        void write(int at, long xn, long xd, long yn, long yd) {
            set(at, xn);
            set(at + 1, xd);
            set(at + 2, yn);
            set(at + 3, yd);
        }

        void copyPlace(int from, int to) {
            write(to, at(from), at(from + 1), at(from + 2), at(from + 3));
        }

        boolean samePlace(int one, int other) {
            return at(one) == at(other) && at(one + 1) == at(other + 1)
                && at(one + 2) == at(other + 2) && at(one + 3) == at(other + 3);
        }

        /** Whether one of so many places from there on is the same as that one. */
        boolean among(int from, int count, int place) {
            for (int i = 0; i < count && i < LENGTH; i++) {
                if (samePlace(from + 4 * i, place)) {
                    return true;
                }
            }
            return false;
        }

        int changes() {
            return remembered;
        }

        void remember() {
            newest = newest >= 0 && newest + 1 < PAST ? newest + 1 : 0;
            System.arraycopy(cells, 0, past, newest * TOTAL, TOTAL);
            remembered = remembered < PAST ? remembered + 1 : PAST;
        }

        void goBack() {
            if (remembered > 0 && newest >= 0 && newest < PAST) {
                System.arraycopy(past, newest * TOTAL, cells, 0, TOTAL);
                newest = newest > 0 ? newest - 1 : PAST - 1;
                remembered--;
            }
        }
    }

    /**
     * Whole numbers without a bound. A number is told by where it begins in one long row: there is
     * how many limbs it has (below 0 for a number below 0), and the limbs follow, the lowest first.
     * New numbers are put on top; who is done with some sets the top back.
     */
    private static final class Reckoner {
        private static final int BITS = 31;
        private static final long MASK = 0x7fffffffL;
        private static final long BASE = 0x80000000L;
        private static final int MOST = 1 << 22;
        private static final int NOWHERE = -1;
        private static final int BILLION = 1000000000;
        private static final int STEPS = 1000000;

        private int[] cells = new int[4096];
        private int top;
        private int rest;
        private int sumAt;
        private int sumOver;
        private int sumUnder;

        int mark() {
            return top;
        }

        void release(int mark) {
            if (mark >= 0 && mark < top) {
                top = mark;
            }
        }

        /** Room for a number of so many limbs; who asks for it writes them all. */
        private int fresh(int limbs) {
            int n = limbs > 0 ? limbs : 0;
            if (n >= MOST || top < 0 || top >= MOST - n) {
                return NOWHERE;
            }
            int end = top + n + 1;
            int wide = cells.length > 0 ? cells.length : 1;
            for (int i = 0; i < BITS && wide < end; i++) {
                wide = 2 * wide;
            }
            if (wide < end) {
                return NOWHERE;
            }
            if (wide > cells.length) {
                int[] wider = new int[wide];
                for (int i = 0; i < cells.length && i < wide; i++) {
                    wider[i] = cells[i];
                }
                cells = wider;
            }
            int h = top;
            cells[h] = n;
            top = end;
            return h;
        }

        int size(int h) {
            if (h < 0 || h >= cells.length) {
                return 0;
            }
            int n = cells[h] < 0 ? -cells[h] : cells[h];
            return n >= 0 && n < cells.length - h ? n : 0;
        }

        int sign(int h) {
            int n = h >= 0 && h < cells.length ? cells[h] : 0;
            return n > 0 ? 1 : n < 0 ? -1 : 0;
        }

        /** Takes the limbs off that are 0 at the upper end of a number of n limbs, and puts the sign on. */
        private int strip(int h, int n, int sign) {
            int left = n;
            for (int i = 0; i < n && left > 0 && h >= 0 && h + left < cells.length && cells[h + left] == 0; i++) {
                left--;
            }
            if (h >= 0 && h < cells.length) {
                cells[h] = sign < 0 ? -left : left;
            }
            return h;
        }

        int of(long value) {
            long m = value < 0 ? -value : value;
            int h = fresh(3);
            if (h >= 0 && h < cells.length - 3) {
                cells[h + 1] = (int) (m & MASK);
                cells[h + 2] = (int) (m >>> BITS & MASK);
                cells[h + 3] = (int) (m >>> 2 * BITS);
            }
            return strip(h, 3, value < 0 ? -1 : 1);
        }

        /** Whether it has but one limb, or none. */
        boolean isLimb(int h) {
            return h >= 0 && h < cells.length && cells[h] >= -1 && cells[h] <= 1;
        }

        /** Whether it is so small that value() tells it. */
        boolean isShort(int h) {
            return h >= 0 && h < cells.length && cells[h] >= -2 && cells[h] <= 2;
        }

        long value(int h) {
            int n = h >= 0 && h < cells.length ? cells[h] : 0;
            int limbs = n < 0 ? -n : n;
            if (limbs < 1 || limbs > 2 || h + limbs >= cells.length) {
                return 0;
            }
            long v = cells[h + 1] + (limbs > 1 ? (long) cells[h + 2] << BITS : 0);
            return n < 0 ? -v : v;
        }

        private int compareSize(int a, int b) {
            int n = size(a);
            int m = size(b);
            if (n != m) {
                return n < m ? -1 : 1;
            }
            for (int i = n; i > 0; i--) {
                if (cells[a + i] != cells[b + i]) {
                    return cells[a + i] < cells[b + i] ? -1 : 1;
                }
            }
            return 0;
        }

        int compare(int a, int b) {
            int s = sign(a);
            int t = sign(b);
            if (s != t) {
                return s < t ? -1 : 1;
            }
            int n = size(a);
            int m = size(b);
            if (n != m) {
                return n < m ? -s : s;
            }
            for (int i = n; i > 0; i--) {
                if (cells[a + i] != cells[b + i]) {
                    return cells[a + i] < cells[b + i] ? -s : s;
                }
            }
            return 0;
        }

        /** a + b, or a - b if flip is -1. */
        int add(int a, int b, int flip) {
            int signA = sign(a);
            int signB = flip < 0 ? -sign(b) : sign(b);
            int n = size(a);
            int m = size(b);
            boolean swap = n < m;
            for (int i = n; i > 0 && n == m && cells[a + i] <= cells[b + i]; i--) {
                if (cells[a + i] < cells[b + i]) {
                    swap = true;
                    break;
                }
            }
            int big = swap ? b : a;
            int low = swap ? a : b;
            long same = signA * signB < 0 ? -1 : 1;
            n = size(big);
            m = size(low);
            int r = fresh(n + 1);
            if (r < 0 || r + n + 1 >= cells.length) {
                return NOWHERE;
            }
            long carry = 0;
            for (int i = 1; i <= n; i++) {
                long t = carry + cells[big + i] + (i <= m ? same * cells[low + i] : 0);
                cells[r + i] = (int) (t & MASK);
                carry = t >> BITS;
            }
            cells[r + n + 1] = (int) (carry & MASK);
            return strip(r, n + 1, swap ? signB : signA);
        }

        int mul(int a, int b) {
            int n = size(a);
            int m = size(b);
            if (n == 0 || m == 0) {
                return fresh(0);
            }
            int r = fresh(n + m);
            if (r < 0 || r + n + m >= cells.length) {
                return NOWHERE;
            }
            for (int i = 1; i <= n; i++) {
                long x = cells[a + i];
                long carry = 0;
                int at = r + i;
                for (int k = 1; k <= m; k++, at++) {
                    long t = x * cells[b + k] + carry + (i > 1 ? cells[at] : 0);
                    cells[at] = (int) (t & MASK);
                    carry = t >>> BITS;
                }
                cells[at] = (int) carry;
            }
            return strip(r, n + m, sign(a) * sign(b));
        }

        /** a * d - b * c. */
        int minor(int a, int b, int c, int d) {
            if (size(a) <= 1 && size(b) <= 1 && size(c) <= 1 && size(d) <= 1) {
                return of(value(a) * value(d) - value(b) * value(c));
            }
            return add(mul(a, d), mul(b, c), -1);
        }

        /** By how many bits a number of n limbs can be shifted up without one limb more. */
        private int slack(int h, int n) {
            int bits = 0;
            for (int i = 1; i < BITS && n > 0 && h >= 0 && h + n < cells.length
                && (long) cells[h + n] << i < BASE; i++) {
                bits = i;
            }
            return bits;
        }

        /** Puts the n limbs of a number, shifted up, into one that has so much room. */
        private void shiftInto(int to, int room, int from, int n, int bits) {
            if (to < 0 || to + room >= cells.length || from < 0 || from + n >= cells.length) {
                return;
            }
            long carry = 0;
            for (int i = 1; i <= room; i++) {
                long t = ((i <= n ? (long) cells[from + i] : 0) << bits) + carry;
                cells[to + i] = (int) (t & MASK);
                carry = t >>> BITS;
            }
        }

        private void shiftBack(int h, int n, int bits) {
            if (h < 0 || h + n >= cells.length) {
                return;
            }
            long low = (1L << bits) - 1;
            long carry = 0;
            for (int i = n; i > 0; i--) {
                long t = (carry << BITS) + cells[h + i];
                cells[h + i] = (int) (t >>> bits & MASK);
                carry = t & low;
            }
        }

        /**
         * One digit of a division by the n limbs of v, as one does it on paper: guessed from the highest
         * limbs, then taken off u, and mended if that was one too many.
         */
        private void digit(int u, int v, int n, int q, int j) {
            int at = u + j;
            if (n < 1 || j < 0 || u < 0 || v < 0 || q < 0
                || at + n + 1 >= cells.length || v + n >= cells.length || q + 1 + j >= cells.length) {
                return;
            }
            long high = cells[v + n];
            if (high == 0) {
                return;
            }
            long lead = ((long) cells[at + n + 1] << BITS) + cells[at + n];
            long guess = lead / high;
            long left = lead % high;
            long second = n > 1 ? cells[v + n - 1] : 0;
            long third = n > 1 ? cells[at + n - 1] : 0;
            for (int t = 0; t < 3 && left < BASE
                && (guess >= BASE || guess * second > (left << BITS) + third); t++) {
                guess--;
                left += high;
            }
            long carry = 0;
            long debt = 0;
            for (int i = 1; i <= n; i++) {
                long p = guess * cells[v + i] + carry;
                carry = p >>> BITS;
                long t = cells[at + i] - (p & MASK) + debt;
                cells[at + i] = (int) (t & MASK);
                debt = t >> BITS;
            }
            long end = cells[at + n + 1] - carry + debt;
            cells[at + n + 1] = (int) (end & MASK);
            if (end < 0) {
                guess--;
                carry = 0;
                for (int i = 1; i <= n; i++) {
                    long t = (long) cells[at + i] + cells[v + i] + carry;
                    cells[at + i] = (int) (t & MASK);
                    carry = t >> BITS;
                }
                cells[at + n + 1] = (int) (cells[at + n + 1] + carry & MASK);
            }
            cells[q + 1 + j] = (int) guess;
        }

        /** a / b towards 0; what is left over stands in rest. (Of a division by 0: 0, and 0 is left.) */
        int div(int a, int b) {
            int n = size(b);
            int k = size(a);
            if (n == 0) {
                rest = fresh(0);
                return fresh(0);
            }
            int bits = slack(b, n);
            int digits = k >= n ? k - n + 1 : 0;
            int v = fresh(n);
            int u = fresh(k + 1);
            int q = fresh(digits);
            if (v < 0 || u < 0 || q < 0) {
                rest = NOWHERE;
                return NOWHERE;
            }
            shiftInto(v, n, b, n, bits);
            shiftInto(u, k + 1, a, k, bits);
            for (int j = digits - 1; j >= 0; j--) {
                digit(u, v, n, q, j);
            }
            shiftBack(u, k + 1, bits);
            rest = strip(u, k + 1, sign(a));
            return strip(q, digits, sign(a) * sign(b));
        }

        int rest() {
            return rest;
        }

        private int copy(int h) {
            int n = size(h);
            int r = fresh(n);
            if (r < 0 || r + n >= cells.length) {
                return NOWHERE;
            }
            for (int i = 1; i <= n; i++) {
                cells[r + i] = cells[h + i];
            }
            return strip(r, n, sign(h));
        }

        /** Puts a number where another one begins that took no less room. */
        private void overwrite(int to, int h) {
            int n = size(h);
            if (to >= 0 && h >= 0 && to + n < cells.length && h + n < cells.length) {
                System.arraycopy(cells, h, cells, to, n + 1);
            }
        }

        int gcd(int a, int b) {
            int u = copy(compareSize(a, b) < 0 ? b : a);
            int v = copy(compareSize(a, b) < 0 ? a : b);
            for (int i = 0; i < STEPS && size(u) > 2 && size(v) > 0; i++) {
                int mark = top;
                div(u, v);
                overwrite(u, rest);
                release(mark);
                int kept = u;
                u = v;
                v = kept;
            }
            if (size(u) <= 2) {
                return of(gcdOf(value(u), value(v)));
            }
            return strip(u, size(u), 1);
        }

        static long gcdOf(long a, long b) {
            long u = a < 0 ? -a : a;
            long v = b < 0 ? -b : b;
            for (int i = 0; i < STEPS && v != 0; i++) {
                long t = u % v;
                u = v;
                v = t;
            }
            return u;
        }

        /** h times so many limbs' worth. */
        int raise(int h, int limbs) {
            int n = size(h);
            int up = limbs > 0 ? limbs : 0;
            int r = fresh(n + up);
            if (r < 0 || r + n + up >= cells.length) {
                return NOWHERE;
            }
            for (int i = 1; i <= up; i++) {
                cells[r + i] = 0;
            }
            for (int i = 1; i <= n; i++) {
                cells[r + up + i] = cells[h + i];
            }
            return strip(r, n + up, sign(h));
        }

        /** The greatest whole number whose square is no greater than h (which is not below 0). */
        int root(int h) {
            if (sign(h) <= 0) {
                return fresh(0);
            }
            int two = of(2);
            int bits = (BITS * size(h) - slack(h, size(h)) + 1) / 2;
            int x = raise(of(1L << bits % BITS), bits / BITS);
            for (int i = 0; i < STEPS; i++) {
                int mark = top;
                int y = div(add(x, div(h, x), 1), two);
                if (compareSize(y, x) >= 0) {
                    release(mark);
                    return x;
                }
                overwrite(x, y);
                release(mark);
            }
            return x;
        }

        boolean isSquare(int h) {
            int mark = top;
            int r = root(h);
            boolean yes = sign(h) >= 0 && compare(mul(r, r), h) == 0;
            release(mark);
            return yes;
        }

        void startSum() {
            sumAt = top;
            sumOver = of(0);
            sumUnder = of(1);
        }

        /** Goes on with a sum that was begun earlier, and lower in the row. */
        void resumeSum(int at, int over, int under) {
            sumAt = at;
            sumOver = over;
            sumUnder = under;
        }

        /** Adds over / under to the sum; all numbers made since the sum's start are given up. */
        void addToSum(int over, int under) {
            int common = gcd(sumUnder, under);
            int mine = div(under, common);
            int others = div(sumUnder, common);
            int upper = add(mul(sumOver, mine), mul(over, others), 1);
            int lower = mul(sumUnder, mine);
            overwrite(sumAt, upper);
            sumOver = sumAt;
            sumUnder = sumAt + 1 + size(sumOver);
            overwrite(sumUnder, lower);
            release(sumUnder + 1 + size(sumUnder));
        }

        int sumAt() {
            return sumAt;
        }

        int sumOver() {
            return sumOver;
        }

        int sumUnder() {
            return sumUnder;
        }

        /** TEXT of over / under (which is above 0). */
        void writeFraction(StringBuilder page, int over, int under) {
            int mark = top;
            int common = gcd(over, under);
            write(page, div(over, common));
            int lower = div(under, common);
            if (!isShort(lower) || value(lower) != 1) {
                page.append('/');
                write(page, lower);
            }
            release(mark);
        }

        private void write(StringBuilder page, int h) {
            if (sign(h) == 0) {
                page.append('0');
                return;
            }
            if (sign(h) < 0) {
                page.append('-');
            }
            int mark = top;
            int n = size(h);
            int left = copy(h);
            int parts = fresh(n + n / 8 + 2);
            int limit = size(parts);
            int count = 0;
            for (int i = 1; i <= limit && n > 0; i++) {
                cells[parts + i] = cutBillion(left, n);
                count = i;
                n = cells[left + n] == 0 ? n - 1 : n;
            }
            for (int i = count; i > 0; i--) {
                writePart(page, cells[parts + i], i == count);
            }
            release(mark);
        }

        /** Divides the lowest n limbs in their place by a billion; answers what is left over. */
        private int cutBillion(int h, int n) {
            long left = 0;
            for (int i = Math.min(n, size(h)); i > 0; i--) {
                long t = (left << BITS) + cells[h + i];
                cells[h + i] = (int) (t / BILLION);
                left = t % BILLION;
            }
            return (int) left;
        }

        private static void writePart(StringBuilder page, int part, boolean first) {
            boolean begun = !first;
            for (int unit = BILLION / 10; unit > 0; unit /= 10) {
                int d = part / unit % 10;
                begun = begun || d != 0;
                if (begun) {
                    page.append((char) ('0' + d));
                }
            }
        }
    }

    /**
     * The table of all places that a call looks at, each as three whole numbers X, Y, W with W above 0,
     * which stand for (X / W, Y / W); the lines in it are all places with A * X + B * Y + C * W = 0.
     * The first ten places are the POINTS by their numbers; they stay until something changes.
     */
    private static final class Places {
        private static final int POINT_LIMIT = 10;
        private static final int ROOM = 360;
        private static final int LINES = 40;
        private static final int SMALL = 1 << 30;
        private static final int TINY = 1 << 20;
        private static final int FINEST = 1000000000;
        private static final int REACH = 50;
        private static final int NOTHING = 0;
        private static final int ONE_PLACE = 1;
        private static final int STRAIGHT = 2;

        private final Reckoner num;
        private final Sheet sheet;
        private final Row px = new Row(ROOM);
        private final Row py = new Row(ROOM);
        private final Row pw = new Row(ROOM);
        private final Row smallX = new Row(ROOM);
        private final Row smallY = new Row(ROOM);
        private final Row smallW = new Row(ROOM);
        private final Row grade = new Row(ROOM);
        private final Row la = new Row(LINES);
        private final Row lb = new Row(LINES);
        private final Row lc = new Row(LINES);
        private boolean loaded;
        private int floor;
        private int metFirst;
        private int metLast;

        Places(Reckoner num, Sheet sheet) {
            this.num = num;
            this.sheet = sheet;
        }

        Reckoner num() {
            return num;
        }

        Sheet sheet() {
            return sheet;
        }

        void forget() {
            loaded = false;
        }

        /** Clears the table but for the POINTS. */
        void begin() {
            if (loaded) {
                dropFrom(POINT_LIMIT);
                num.release(floor);
                return;
            }
            dropFrom(0);
            num.release(0);
            for (int k = 0; k < POINT_LIMIT; k++) {
                if (hasPoint(k)) {
                    load(sheet.spot(POINTS, k) + 1);
                } else {
                    add(num.of(0), num.of(0), num.of(1));
                }
            }
            floor = num.mark();
            loaded = true;
        }

        boolean hasPoint(int k) {
            return sheet.has(POINTS, k);
        }

        int size() {
            return px.size();
        }

        /** Gives up all lines and the places from that number on, but not the numbers that tell them. */
        void dropFrom(int size) {
            shorten(size);
            la.clear();
            lb.clear();
            lc.clear();
        }

        void shorten(int size) {
            px.shorten(size);
            py.shorten(size);
            pw.shorten(size);
            smallX.shorten(size);
            smallY.shorten(size);
            smallW.shorten(size);
            grade.shorten(size);
        }

        int x(int i) {
            return px.get(i);
        }

        int y(int i) {
            return py.get(i);
        }

        int w(int i) {
            return pw.get(i);
        }

        int add(int x, int y, int w) {
            px.add(x);
            py.add(y);
            pw.add(w);
            boolean isShort = num.isShort(x) && num.isShort(y) && num.isShort(w);
            long size = Math.max(Math.abs(num.value(x)), Math.max(Math.abs(num.value(y)), num.value(w)));
            boolean small = isShort && size < SMALL;
            smallX.add(small ? (int) num.value(x) : 0);
            smallY.add(small ? (int) num.value(y) : 0);
            smallW.add(small ? (int) num.value(w) : 0);
            grade.add(!small ? 0 : size < TINY ? 2 : 1);
            return px.size() - 1;
        }

        /** A place as it stands in the sheet. */
        int load(int at) {
            long xd = sheet.at(at + 1);
            long yd = sheet.at(at + 3);
            long common = Reckoner.gcdOf(xd, yd);
            if (common <= 0) {
                return add(num.of(0), num.of(0), num.of(1));
            }
            int x = num.mul(num.of(sheet.at(at)), num.of(yd / common));
            int y = num.mul(num.of(sheet.at(at + 2)), num.of(xd / common));
            return add(x, y, num.of(xd / common * yd));
        }

        /** So many places that stand one after another in the sheet; answers the number of the first. */
        int loadRow(int at, int count) {
            int first = size();
            for (int i = 0; i < count && i < ROOM; i++) {
                load(at + 4 * i);
            }
            return first;
        }

        int sideOf(int i, int j, int k) {
            if (grade.get(i) > 1 && grade.get(j) > 1 && grade.get(k) > 1) {
                return smallSide(i, j, k);
            }
            int mark = num.mark();
            int a = num.add(num.mul(y(j), w(k)), num.mul(w(j), y(k)), -1);
            int b = num.add(num.mul(w(j), x(k)), num.mul(x(j), w(k)), -1);
            int c = num.add(num.mul(x(j), y(k)), num.mul(y(j), x(k)), -1);
            int ab = num.add(num.mul(x(i), a), num.mul(y(i), b), 1);
            int s = num.sign(num.add(ab, num.mul(w(i), c), 1));
            num.release(mark);
            return s;
        }

        private int smallSide(int i, int j, int k) {
            long jx = smallX.get(j);
            long jy = smallY.get(j);
            long jw = smallW.get(j);
            long kx = smallX.get(k);
            long ky = smallY.get(k);
            long kw = smallW.get(k);
            return Long.signum(smallX.get(i) * (jy * kw - jw * ky) + smallY.get(i) * (jw * kx - jx * kw)
                + smallW.get(i) * (jx * ky - jy * kx));
        }

        /** -1 if the place i is lower, 0 if both are as high. */
        int compareHeight(int i, int j) {
            if (grade.get(i) > 0 && grade.get(j) > 0) {
                return Long.compare((long) smallY.get(i) * smallW.get(j), (long) smallY.get(j) * smallW.get(i));
            }
            int mark = num.mark();
            int c = num.compare(num.mul(y(i), w(j)), num.mul(y(j), w(i)));
            num.release(mark);
            return c;
        }

        /** -1 if the place i is the LESSER, 0 if both are one. */
        int compare(int i, int j) {
            if (i == j) {
                return 0;
            }
            if (grade.get(i) > 0 && grade.get(j) > 0) {
                int c = Long.compare((long) smallX.get(i) * smallW.get(j), (long) smallX.get(j) * smallW.get(i));
                return c != 0 ? c
                    : Long.compare((long) smallY.get(i) * smallW.get(j), (long) smallY.get(j) * smallW.get(i));
            }
            int mark = num.mark();
            int c = num.compare(num.mul(x(i), w(j)), num.mul(x(j), w(i)));
            if (c == 0) {
                c = num.compare(num.mul(y(i), w(j)), num.mul(y(j), w(i)));
            }
            num.release(mark);
            return c;
        }

        int lesser(int i, int j) {
            return compare(j, i) < 0 ? j : i;
        }

        /** Whether k, that is in a line with both, is between i and j, or one of them. */
        boolean isBetween(int k, int i, int j) {
            return compare(i, k) * compare(k, j) >= 0;
        }

        boolean isOn(int k, int i, int j) {
            return sideOf(i, j, k) == 0 && compare(i, k) * compare(k, j) >= 0;
        }

        /** The sign of the product of the ways from k to i and to j: -1 if their angle is above the right one. */
        int angle(int k, int i, int j) {
            int mark = num.mark();
            int x = num.mul(num.minor(x(i), w(i), x(k), w(k)), num.minor(x(j), w(j), x(k), w(k)));
            int y = num.mul(num.minor(y(i), w(i), y(k), w(k)), num.minor(y(j), w(j), y(k), w(k)));
            int s = num.sign(num.add(x, y, 1));
            num.release(mark);
            return s;
        }

        int squareOver(int i, int j) {
            int x = num.minor(x(i), w(i), x(j), w(j));
            int y = num.minor(y(i), w(i), y(j), w(j));
            return num.add(num.mul(x, x), num.mul(y, y), 1);
        }

        int squareUnder(int i, int j) {
            int w = num.mul(w(i), w(j));
            return num.mul(w, w);
        }

        int middle(int i, int j) {
            int x = num.add(num.mul(x(i), w(j)), num.mul(x(j), w(i)), 1);
            int y = num.add(num.mul(y(i), w(j)), num.mul(y(j), w(i)), 1);
            return add(x, y, num.mul(num.of(2), num.mul(w(i), w(j))));
        }

        int addLine(int a, int b, int c) {
            la.add(a);
            lb.add(b);
            lc.add(c);
            return la.size() - 1;
        }

        /** The line from i to j; what is left of it has the sign 1. */
        int line(int i, int j) {
            return addLine(num.minor(y(i), w(i), y(j), w(j)), num.minor(w(i), x(i), w(j), x(j)),
                num.minor(x(i), y(i), x(j), y(j)));
        }

        /** The line of all places as far from i as from j; what is nearer to i has the sign 1. */
        int halfway(int i, int j) {
            int two = num.mul(num.of(2), num.mul(w(i), w(j)));
            int a = num.mul(two, num.minor(x(i), w(i), x(j), w(j)));
            int b = num.mul(two, num.minor(y(i), w(i), y(j), w(j)));
            int own = num.add(num.mul(x(i), x(i)), num.mul(y(i), y(i)), 1);
            int other = num.add(num.mul(x(j), x(j)), num.mul(y(j), y(j)), 1);
            int c = num.minor(other, own, num.mul(w(j), w(j)), num.mul(w(i), w(i)));
            return addLine(a, b, c);
        }

        int signAt(int line, int i) {
            int a = la.get(line);
            int b = lb.get(line);
            int c = lc.get(line);
            if (grade.get(i) > 0 && num.isLimb(a) && num.isLimb(b) && num.isLimb(c)) {
                return Long.signum(num.value(a) * smallX.get(i) + num.value(b) * smallY.get(i)
                    + num.value(c) * smallW.get(i));
            }
            int mark = num.mark();
            int s = num.sign(valueAt(line, i));
            num.release(mark);
            return s;
        }

        /** What a line makes of a place: its sign tells the side, its size tells how far away it is. */
        int valueAt(int line, int i) {
            int ab = num.add(num.mul(la.get(line), x(i)), num.mul(lb.get(line), y(i)), 1);
            return num.add(ab, num.mul(lc.get(line), w(i)), 1);
        }

        /** The place where two lines cross that are not parallel. */
        int crossingOf(int k, int l) {
            int x = num.minor(lb.get(k), lc.get(k), lb.get(l), lc.get(l));
            int y = num.minor(lc.get(k), la.get(k), lc.get(l), la.get(l));
            int w = num.minor(la.get(k), lb.get(k), la.get(l), lb.get(l));
            if (num.sign(w) >= 0) {
                return add(x, y, w);
            }
            int zero = num.of(0);
            return add(num.add(zero, x, -1), num.add(zero, y, -1), num.add(zero, w, -1));
        }

        /** What the pieces from a to b and from c to d both hold: NOTHING, ONE_PLACE or STRAIGHT. */
        int meet(int a, int b, int c, int d) {
            int atC = sideOf(a, b, c);
            int atD = sideOf(a, b, d);
            if (atC == 0 && atD == 0) {
                return meetAlong(a, b, c, d);
            }
            if (atC * atD > 0) {
                return NOTHING;
            }
            int atA = sideOf(c, d, a);
            int atB = sideOf(c, d, b);
            if (atA * atB > 0) {
                return NOTHING;
            }
            if (atC == 0 || atD == 0) {
                metFirst = atC == 0 ? c : d;
            } else if (atA == 0 || atB == 0) {
                metFirst = atA == 0 ? a : b;
            } else {
                metFirst = crossingOf(line(a, b), line(c, d));
                la.shorten(la.size() - 2);
                lb.shorten(lb.size() - 2);
                lc.shorten(lc.size() - 2);
            }
            metLast = metFirst;
            return ONE_PLACE;
        }

        private int meetAlong(int a, int b, int c, int d) {
            boolean forth = compare(a, b) < 0;
            boolean along = compare(c, d) < 0;
            int low = forth ? a : b;
            int high = forth ? b : a;
            int otherLow = along ? c : d;
            int otherHigh = along ? d : c;
            metFirst = compare(low, otherLow) < 0 ? otherLow : low;
            metLast = compare(high, otherHigh) < 0 ? high : otherHigh;
            int order = compare(metFirst, metLast);
            if (order > 0) {
                return NOTHING;
            }
            return order == 0 ? ONE_PLACE : STRAIGHT;
        }

        int metFirst() {
            return metFirst;
        }

        int metLast() {
            return metLast;
        }

        /** 1 if k is within the polygon of so many places from first on, 0 if on its rim, -1 if outside. */
        int position(int first, int count, int k) {
            boolean within = false;
            for (int i = 0; i < count && i < ROOM; i++) {
                int a = first + i;
                int b = i + 1 < count ? first + i + 1 : first;
                int s = sideOf(a, b, k);
                if (s == 0 && compare(a, k) * compare(k, b) >= 0) {
                    return 0;
                }
                boolean fromAbove = compareHeight(a, k) > 0;
                boolean toAbove = compareHeight(b, k) > 0;
                if (fromAbove != toAbove && (toAbove ? s > 0 : s < 0)) {
                    within = !within;
                }
            }
            return within ? 1 : -1;
        }

        /** Begins the row with its LEAST place. */
        void fromLeast(Row row, Row spare) {
            int least = 0;
            for (int i = 1; i < row.size(); i++) {
                least = compare(row.get(i), row.get(least)) < 0 ? i : least;
            }
            spare.copy(row);
            int count = spare.size();
            for (int i = 0; i < count; i++) {
                row.set(i, spare.get(i + least < count ? i + least : i + least - count));
            }
        }

        /** Takes the places out of a ring that are straight between those ahead of and behind them. */
        void dropStraight(Row row, Row spare) {
            spare.copy(row);
            row.clear();
            for (int i = 0; i < spare.size(); i++) {
                if (sideOf(spare.before(i), spare.get(i), spare.after(i)) != 0) {
                    row.add(spare.get(i));
                }
            }
        }

        /** The sum of twice the AREA in a ring, which stands in the reckoner then. */
        void sumRing(Row row) {
            num.startSum();
            for (int i = 0; row.size() > 2 && i < row.size(); i++) {
                int a = row.get(i);
                int b = row.after(i);
                num.addToSum(num.minor(x(a), y(a), x(b), y(b)), num.mul(w(a), w(b)));
            }
        }

        /** Adds the same of so many places from first on. */
        void addPolygon(int first, int count) {
            for (int i = 0; i < count && i < ROOM; i++) {
                int a = first + i;
                int b = i + 1 < count ? first + i + 1 : first;
                num.addToSum(num.minor(x(a), y(a), x(b), y(b)), num.mul(w(a), w(b)));
            }
        }

        /** TEXT of half the sum that stands in the reckoner. */
        void writeHalfSum(StringBuilder page) {
            num.writeFraction(page, num.sumOver(), num.mul(num.of(2), num.sumUnder()));
        }

        void write(StringBuilder page, int i) {
            page.append('(');
            num.writeFraction(page, x(i), w(i));
            page.append(',');
            num.writeFraction(page, y(i), w(i));
            page.append(')');
        }

        void writeRow(StringBuilder page, Row row) {
            for (int i = 0; i < row.size(); i++) {
                write(page, row.get(i));
            }
        }

        /** The place to which i comes by the TURN by m and n about c. */
        int turned(int i, int c, int m, int n) {
            int u = num.minor(x(i), w(i), x(c), w(c));
            int v = num.minor(y(i), w(i), y(c), w(c));
            int cos = num.of(m * m - n * n);
            int sin = num.of(2 * m * n);
            int all = num.of(m * m + n * n);
            int du = num.add(num.mul(cos, u), num.mul(sin, v), -1);
            int dv = num.add(num.mul(sin, u), num.mul(cos, v), 1);
            int scale = num.mul(all, w(i));
            return add(num.add(num.mul(scale, x(c)), du, 1), num.add(num.mul(scale, y(c)), dv, 1),
                num.mul(scale, w(c)));
        }

        /** Writes a place into the sheet; false, if it is not in the BOX or TOO FINE. */
        boolean store(int i, int at) {
            return storeNumber(x(i), w(i), at) && storeNumber(y(i), w(i), at + 2);
        }

        private boolean storeNumber(int over, int under, int at) {
            int mark = num.mark();
            int common = num.gcd(over, under);
            int upper = num.div(over, common);
            int lower = num.div(under, common);
            boolean fits = num.isShort(upper) && num.isShort(lower) && num.value(lower) <= FINEST
                && Math.abs(num.value(upper)) <= REACH * num.value(lower);
            if (fits) {
                sheet.set(at, num.value(upper));
                sheet.set(at + 1, num.value(lower));
            }
            num.release(mark);
            return fits;
        }
    }

    /** A convex set of the BOX, told by its CORNERS; each keeps the line that leads on from it. */
    private static final class Ring {
        private static final int REACH = 50;
        private static final int ROOM = 40;

        private final Places places;
        private final Reckoner num;
        private final Row corners = new Row(ROOM);
        private final Row lines = new Row(ROOM);
        private final Row oldCorners = new Row(ROOM);
        private final Row oldLines = new Row(ROOM);
        private final Row signs = new Row(ROOM);
        private final Row halves = new Row(ROOM);
        private final Row boxCorners = new Row(ROOM);
        private final Row boxLines = new Row(ROOM);

        Ring(Places places) {
            this.places = places;
            this.num = places.num();
        }

        int size() {
            return corners.size();
        }

        Row corners() {
            return corners;
        }

        private void makeBox() {
            corners.clear();
            lines.clear();
            addBoxCorner(-REACH, -REACH, 0, 1);
            addBoxCorner(REACH, -REACH, -1, 0);
            addBoxCorner(REACH, REACH, 0, -1);
            addBoxCorner(-REACH, REACH, 1, 0);
        }

        private void addBoxCorner(int x, int y, int a, int b) {
            corners.add(places.add(num.of(x), num.of(y), num.of(1)));
            lines.add(places.addLine(num.of(a), num.of(b), num.of(REACH)));
        }

        /** Takes all away that is right of the line. (A straight piece has one way from end to end, not two.) */
        private void clip(int line) {
            oldCorners.copy(corners);
            oldLines.copy(lines);
            signs.clear();
            int count = oldCorners.size();
            for (int i = 0; i < count; i++) {
                signs.add(places.signAt(line, oldCorners.get(i)));
            }
            corners.clear();
            lines.clear();
            for (int i = 0; i < count; i++) {
                int here = signs.get(i);
                int next = signs.after(i);
                if (here >= 0) {
                    corners.add(oldCorners.get(i));
                    lines.add(here == 0 && next < 0 ? line : oldLines.get(i));
                }
                if (here * next < 0 && (count != 2 || i == 0)) {
                    corners.add(places.crossingOf(oldLines.get(i), line));
                    lines.add(here > 0 ? line : oldLines.get(i));
                }
            }
        }

        void makeRegion(int k) {
            makeBox();
            for (int i = 0; i < Places.POINT_LIMIT; i++) {
                if (i != k && places.hasPoint(i)) {
                    clip(places.halfway(k, i));
                }
            }
            places.fromLeast(corners, oldCorners);
        }

        /** The HALF BOX of two places. */
        void makeHalfBox(int a, int b) {
            makeBox();
            clip(places.line(a, b));
            places.fromLeast(corners, oldCorners);
        }

        void makeRoom() {
            loadHalves();
            makeBox();
            for (int k = 0; k < halves.size(); k++) {
                if (halves.get(k) != NONE) {
                    clip(halves.get(k));
                }
            }
            places.fromLeast(corners, oldCorners);
        }

        private void loadHalves() {
            Sheet sheet = places.sheet();
            halves.clear();
            for (int k = 0; k < sheet.limit(HALVES); k++) {
                int line = NONE;
                if (sheet.has(HALVES, k)) {
                    int spot = sheet.spot(HALVES, k);
                    int a = places.load(spot + 1);
                    line = places.line(a, places.load(spot + 5));
                }
                halves.add(line);
            }
        }

        /** The set of BARRING. */
        int bars() {
            makeRoom();
            if (size() > 0) {
                return 0;
            }
            makeBox();
            boxCorners.copy(corners);
            boxLines.copy(lines);
            int limit = halves.size();
            for (int most = 1; most <= 3; most++) {
                for (int i = 0; i < limit; i++) {
                    for (int j = most > 1 ? i + 1 : i; j < (most > 1 ? limit : i + 1); j++) {
                        for (int k = most > 2 ? j + 1 : j; k < (most > 2 ? limit : j + 1); k++) {
                            if (bar(i, j, k)) {
                                return 1 << i | 1 << j | 1 << k;
                            }
                        }
                    }
                }
            }
            return 0;
        }

        /** Whether these HALFPLANES (some may be the same) are there and leave nothing of the BOX. */
        private boolean bar(int i, int j, int k) {
            if (halves.get(i) == NONE || halves.get(j) == NONE || halves.get(k) == NONE) {
                return false;
            }
            int mark = num.mark();
            int count = places.size();
            corners.copy(boxCorners);
            lines.copy(boxLines);
            clip(halves.get(i));
            if (j != i) {
                clip(halves.get(j));
            }
            if (k != j) {
                clip(halves.get(k));
            }
            places.shorten(count);
            num.release(mark);
            return size() == 0;
        }

        void writeArea(StringBuilder page) {
            places.sumRing(corners);
            places.writeHalfSum(page);
        }

        /** Whether all REGIONS together have the AREA of the BOX. */
        boolean fillBox() {
            places.begin();
            num.startSum();
            int at = num.sumAt();
            int count = places.size();
            boolean some = false;
            for (int k = 0; k < Places.POINT_LIMIT; k++) {
                if (places.hasPoint(k)) {
                    some = true;
                    int over = num.sumOver();
                    int under = num.sumUnder();
                    makeRegion(k);
                    places.sumRing(corners);
                    int ownOver = num.sumOver();
                    int ownUnder = num.sumUnder();
                    num.resumeSum(at, over, under);
                    num.addToSum(ownOver, ownUnder);
                    places.dropFrom(count);
                }
            }
            int all = num.mul(num.of(8L * REACH * REACH), num.sumUnder());
            return !some || num.compare(num.sumOver(), all) == 0;
        }
    }

    /** Circles through POINTS, the TRIANGLES and what hangs on them. */
    private static final class Mesh {
        private static final int LIMIT = 10;
        private static final int MOST = 120;

        private final Places places;
        private final Reckoner num;
        private final Row liftX = new Row(LIMIT);
        private final Row liftY = new Row(LIMIT);
        private final Row liftS = new Row(LIMIT);
        private final Row found = new Row(MOST);
        private boolean known;
        private int origin;
        private int cx;
        private int cy;
        private int cs;

        Mesh(Places places) {
            this.places = places;
            this.num = places.num();
        }

        void forget() {
            known = false;
        }

        /**
         * Takes a POINT as the origin, and tells of each other one, that is at (u / w, v / w) from there,
         * u * w, v * w and u * u + v * v: a circle through the origin is a plane in these three.
         */
        void lift(int i) {
            origin = i;
            liftX.clear();
            liftY.clear();
            liftS.clear();
            for (int d = 0; d < LIMIT; d++) {
                int u = num.minor(places.x(d), places.w(d), places.x(i), places.w(i));
                int v = num.minor(places.y(d), places.w(d), places.y(i), places.w(i));
                int w = num.mul(places.w(d), places.w(i));
                liftX.add(num.mul(u, w));
                liftY.add(num.mul(v, w));
                liftS.add(num.add(num.mul(u, u), num.mul(v, v), 1));
            }
        }

        /** The circle through the origin and two other POINTS: cx * x + cy * y + cs * (x * x + y * y) = 0. */
        void through(int j, int k) {
            cx = num.minor(liftY.get(j), liftS.get(j), liftY.get(k), liftS.get(k));
            cy = num.minor(liftS.get(j), liftX.get(j), liftS.get(k), liftX.get(k));
            cs = num.minor(liftX.get(j), liftY.get(j), liftX.get(k), liftY.get(k));
        }

        /** CIRCLE of the origin, the two POINTS given to through(), and d. */
        int at(int d) {
            int mark = num.mark();
            int xy = num.add(num.mul(cx, liftX.get(d)), num.mul(cy, liftY.get(d)), 1);
            int sign = -num.sign(num.add(xy, num.mul(cs, liftS.get(d)), 1)) * num.sign(cs);
            num.release(mark);
            return sign;
        }

        void writeCentre(StringBuilder page) {
            int flip = num.of(num.sign(cs) < 0 ? -1 : 1);
            int twice = num.mul(num.of(2), num.mul(flip, cs));
            int under = num.mul(twice, places.w(origin));
            int w = num.mul(flip, places.w(origin));
            page.append('(');
            num.writeFraction(page, num.minor(twice, w, cx, places.x(origin)), under);
            page.append(',');
            num.writeFraction(page, num.minor(twice, w, cy, places.y(origin)), under);
            page.append(')');
        }

        void writeRadius(StringBuilder page) {
            int squares = num.add(num.mul(cx, cx), num.mul(cy, cy), 1);
            num.writeFraction(page, squares, num.mul(num.of(4), num.mul(cs, cs)));
        }

        int count() {
            return found.size();
        }

        int get(int t) {
            return found.get(t);
        }

        /** Finds the TRIANGLES; the rest is asked after that. */
        void find() {
            if (known) {
                return;
            }
            known = true;
            found.clear();
            for (int i = 0; i < LIMIT; i++) {
                lift(i);
                for (int j = i + 1; j < LIMIT; j++) {
                    for (int k = j + 1; k < LIMIT; k++) {
                        if (isTriangle(i, j, k)) {
                            found.add(100 * i + 10 * j + k);
                        }
                    }
                }
            }
        }

        /** Whether they are a TRIANGLE; i must be the origin. */
        private boolean isTriangle(int i, int j, int k) {
            if (!places.hasPoint(i) || !places.hasPoint(j) || !places.hasPoint(k) || places.sideOf(i, j, k) == 0) {
                return false;
            }
            int mark = num.mark();
            through(j, k);
            boolean empty = true;
            int rim = 0;
            for (int d = 0; d < LIMIT && empty; d++) {
                if (places.hasPoint(d)) {
                    int c = d == i || d == j || d == k ? 0 : at(d);
                    empty = c <= 0;
                    rim |= c == 0 ? 1 << d : 0;
                }
            }
            num.release(mark);
            return empty && (rim & (1 << i) - 1) == 0 && isFan(i, j, k, rim);
        }

        /** Whether all others of the RIM are on the SIDE of its smallest number, i. */
        private boolean isFan(int i, int j, int k, int rim) {
            int own = places.sideOf(j, k, i);
            for (int d = 0; d < LIMIT; d++) {
                if ((rim >> d & 1) == 1 && d != i && d != j && d != k && places.sideOf(j, k, d) != own) {
                    return false;
                }
            }
            return true;
        }

        private boolean holds(int t, int i) {
            int triangle = found.get(t);
            return triangle / 100 == i || triangle / 10 % 10 == i || triangle % 10 == i;
        }

        /** The third POINT of a TRIANGLE that has i and j; NONE, if it has not both. */
        private int third(int t, int i, int j) {
            if (!holds(t, i) || !holds(t, j)) {
                return NONE;
            }
            int triangle = found.get(t);
            return triangle / 100 + triangle / 10 % 10 + triangle % 10 - i - j;
        }

        int countEdges() {
            int edges = 0;
            for (int i = 0; i < LIMIT; i++) {
                for (int j = i + 1; j < LIMIT; j++) {
                    edges += firstWith(i, j, 0) != NONE ? 1 : 0;
                }
            }
            return edges;
        }

        /** The first TRIANGLE from t on that has i and j; NONE, if there is none. */
        private int firstWith(int i, int j, int t) {
            for (int s = Math.max(t, 0); s < found.size(); s++) {
                if (third(s, i, j) != NONE) {
                    return s;
                }
            }
            return NONE;
        }

        void writePaper(StringBuilder page) {
            for (int i = 0; i < LIMIT; i++) {
                lift(i);
                for (int j = i + 1; j < LIMIT; j++) {
                    int one = firstWith(i, j, 0);
                    int two = one == NONE ? NONE : firstWith(i, j, one + 1);
                    if (two != NONE) {
                        writeFold(page, i, j, third(one, i, j), third(two, i, j));
                    }
                }
            }
        }

        private void writeFold(StringBuilder page, int i, int j, int one, int two) {
            int mark = num.mark();
            through(j, one);
            page.append(i).append(j).append(Math.min(one, two)).append(Math.max(one, two));
            page.append(at(two) == 0 ? '=' : '<');
            num.release(mark);
        }

        /** Whether no POINT is within the circle of a TRIANGLE, and the numbers of all fit together. */
        boolean fits() {
            places.begin();
            find();
            int count = found.size();
            origin = NONE;
            for (int t = 0; t < count; t++) {
                int triangle = found.get(t);
                if (triangle / 100 != origin) {
                    lift(triangle / 100);
                }
                int mark = num.mark();
                through(triangle / 10 % 10, triangle % 10);
                for (int d = 0; d < LIMIT; d++) {
                    if (places.hasPoint(d) && at(d) > 0) {
                        return false;
                    }
                }
                num.release(mark);
            }
            return count == 0 || places.sheet().count(POINTS) - countEdges() + count == 1;
        }
    }

    /** The HULL of the POINTS, their pairs and their LEAST CIRCLE. */
    private static final class Swarm {
        private static final int LIMIT = 10;

        private final Places places;
        private final Reckoner num;
        private final Mesh mesh;
        private final Row hull = new Row(LIMIT);
        private final Row holders = new Row(3);
        private final Row pairs = new Row(4);
        private int flattest;
        private int widthOver;
        private int widthUnder;
        private int farOver;
        private int farUnder;
        private int nearOver;
        private int nearUnder;

        Swarm(Places places, Mesh mesh) {
            this.places = places;
            this.num = places.num();
            this.mesh = mesh;
        }

        /** Finds the HULL: from the LEAST one always to that which has all others on the left. */
        int findHull() {
            hull.clear();
            int start = NONE;
            for (int i = 0; i < LIMIT; i++) {
                if (places.hasPoint(i)) {
                    start = start == NONE ? i : places.lesser(start, i);
                }
            }
            int here = start;
            for (int i = 0; i < LIMIT && here != NONE; i++) {
                hull.add(here);
                int next = nextOfHull(here);
                here = next == start ? NONE : next;
            }
            return hull.size();
        }

        private int nextOfHull(int here) {
            int next = NONE;
            for (int i = 0; i < LIMIT; i++) {
                if (i != here && places.hasPoint(i)) {
                    int s = next == NONE ? -1 : places.sideOf(here, next, i);
                    if (s < 0 || s == 0 && places.isBetween(next, here, i)) {
                        next = i;
                    }
                }
            }
            return next;
        }

        int cornerAt(int i) {
            return hull.get(i);
        }

        int countCorners() {
            return hull.size();
        }

        /** TEXT of AREA (what 0) or SQUARED WIDTH of the HULL, which must be found. */
        void writeHull(StringBuilder page, int what) {
            if (what == 0) {
                places.sumRing(hull);
                places.writeHalfSum(page);
            } else {
                findWidth();
                num.writeFraction(page, widthOver, widthUnder);
            }
        }

        /** FLATTEST of the HULL, which must be found. */
        int findFlattest() {
            findWidth();
            return flattest;
        }

        /** The SQUARED WIDTH as a fraction, and FLATTEST. */
        private void findWidth() {
            flattest = NONE;
            widthOver = num.of(0);
            widthUnder = num.of(1);
            if (hull.size() < 3) {
                return;
            }
            for (int e = 0; e < hull.size(); e++) {
                int a = hull.get(e);
                int b = hull.after(e);
                int line = places.line(a, b);
                int far = farthest(line, a);
                int d = places.valueAt(line, far);
                int over = num.mul(d, d);
                int x = num.minor(places.x(a), places.w(a), places.x(b), places.w(b));
                int y = num.minor(places.y(a), places.w(a), places.y(b), places.w(b));
                int squares = num.add(num.mul(x, x), num.mul(y, y), 1);
                int under = num.mul(squares, num.mul(places.w(far), places.w(far)));
                if (flattest == NONE || num.compare(num.mul(over, widthUnder), num.mul(widthOver, under)) < 0) {
                    flattest = e;
                    widthOver = over;
                    widthUnder = under;
                }
            }
        }

        /** The CORNER of the HULL that is farthest from a line through the CORNER a. */
        private int farthest(int line, int a) {
            int far = a;
            int best = num.of(0);
            for (int i = 0; i < hull.size(); i++) {
                int k = hull.get(i);
                int own = places.valueAt(line, k);
                if (num.compare(num.mul(own, places.w(far)), num.mul(best, places.w(k))) > 0) {
                    far = k;
                    best = own;
                }
            }
            return far;
        }

        /** One of both POINTS of the FAR PAIR (what 0, 1) or of the NEAR PAIR (what 2, 3). */
        int pair(int what) {
            return pairs.get(what);
        }

        void findPairs() {
            pairs.fill(4, NONE);
            farOver = num.of(0);
            farUnder = num.of(1);
            nearOver = farOver;
            nearUnder = farUnder;
            for (int i = 0; i < LIMIT; i++) {
                for (int j = i + 1; j < LIMIT; j++) {
                    if (places.hasPoint(i) && places.hasPoint(j)) {
                        weighPair(i, j);
                    }
                }
            }
        }

        private void weighPair(int i, int j) {
            int over = places.squareOver(i, j);
            int under = places.squareUnder(i, j);
            if (pairs.get(0) == NONE || num.compare(num.mul(over, farUnder), num.mul(farOver, under)) > 0) {
                pairs.set(0, i);
                pairs.set(1, j);
                farOver = over;
                farUnder = under;
            }
            if (pairs.get(2) == NONE || num.compare(num.mul(over, nearUnder), num.mul(nearOver, under)) < 0) {
                pairs.set(2, i);
                pairs.set(3, j);
                nearOver = over;
                nearUnder = under;
            }
        }

        /** Finds HOLDERS, which are CORNERS of the HULL always; answers their set. */
        int findHolders() {
            holders.clear();
            int corners = findHull();
            if (corners == 1) {
                hold(hull.get(0), NONE, NONE);
            } else if (corners > 1 && !findTwoHolders()) {
                findThreeHolders();
            }
            return holderSet();
        }

        int holderSet() {
            int set = 0;
            for (int i = 0; i < holders.size(); i++) {
                set |= 1 << holders.get(i);
            }
            return set;
        }

        private boolean hasCorner(int k) {
            for (int i = 0; i < hull.size(); i++) {
                if (hull.get(i) == k) {
                    return true;
                }
            }
            return false;
        }

        private void hold(int i, int j, int k) {
            holders.clear();
            holders.add(i);
            if (j != NONE) {
                holders.add(j);
            }
            if (k != NONE) {
                holders.add(k);
            }
        }

        private boolean findTwoHolders() {
            for (int i = 0; i < LIMIT; i++) {
                for (int j = i + 1; j < LIMIT; j++) {
                    if (hasCorner(i) && hasCorner(j) && twoHold(i, j)) {
                        hold(i, j, NONE);
                        return true;
                    }
                }
            }
            return false;
        }

        /** Whether the circle with i and j opposite holds all: none sees them at less than the right angle. */
        private boolean twoHold(int i, int j) {
            for (int c = 0; c < hull.size(); c++) {
                int k = hull.get(c);
                if (k != i && k != j && places.angle(k, i, j) > 0) {
                    return false;
                }
            }
            return true;
        }

        private void findThreeHolders() {
            for (int i = 0; i < LIMIT; i++) {
                if (hasCorner(i)) {
                    mesh.lift(i);
                }
                for (int j = i + 1; j < LIMIT; j++) {
                    for (int k = j + 1; k < LIMIT; k++) {
                        if (hasCorner(i) && hasCorner(j) && hasCorner(k) && threeHold(i, j, k)) {
                            hold(i, j, k);
                            return;
                        }
                    }
                }
            }
        }

        /** Whether the circle through three CORNERS holds all, and their triangle is sharp; i must be the origin. */
        private boolean threeHold(int i, int j, int k) {
            if (places.angle(i, j, k) <= 0 || places.angle(j, i, k) <= 0 || places.angle(k, i, j) <= 0) {
                return false;
            }
            mesh.through(j, k);
            for (int c = 0; c < hull.size(); c++) {
                if (mesh.at(hull.get(c)) < 0) {
                    return false;
                }
            }
            return true;
        }

        /** TEXT of the centre of the LEAST CIRCLE (what 0) or of the square of its radius; HOLDERS must be found. */
        void writeLeast(StringBuilder page, int what) {
            int i = holders.get(0);
            int j = holders.size() > 1 ? holders.get(1) : i;
            if (holders.size() == 3) {
                mesh.through(j, holders.get(2));
                if (what == 0) {
                    mesh.writeCentre(page);
                } else {
                    mesh.writeRadius(page);
                }
            } else if (holders.size() > 0 && what == 0) {
                places.write(page, places.middle(i, j));
            } else if (holders.size() > 0) {
                num.writeFraction(page, places.squareOver(i, j), num.mul(num.of(4), places.squareUnder(i, j)));
            }
        }
    }

    /** The PIECES, where they cross and overlap; and the FAULTS of the CHAIN. */
    private static final class Bundle {
        private static final int LIMIT = 8;
        private static final int PAIRS = 28;

        private final Places places;
        private final Sheet sheet;
        private final Row from = new Row(LIMIT);
        private final Row to = new Row(LIMIT);
        private final Row crossings = new Row(PAIRS);
        private final Row sets = new Row(PAIRS);
        private final Row overlaps = new Row(PAIRS);
        private final Row overFirst = new Row(PAIRS);
        private final Row overLast = new Row(PAIRS);

        Bundle(Places places) {
            this.places = places;
            this.sheet = places.sheet();
        }

        private void load() {
            from.clear();
            to.clear();
            for (int k = 0; k < LIMIT; k++) {
                boolean there = sheet.has(PIECES, k);
                from.add(there ? places.load(sheet.spot(PIECES, k) + 1) : NONE);
                to.add(there ? places.load(sheet.spot(PIECES, k) + 5) : NONE);
            }
        }

        /** Finds all CROSSINGS with their sets, and all OVERLAPS. */
        void find() {
            load();
            crossings.clear();
            sets.clear();
            overlaps.clear();
            overFirst.clear();
            overLast.clear();
            for (int i = 0; i < LIMIT; i++) {
                for (int j = i + 1; j < LIMIT; j++) {
                    int kind = from.get(i) == NONE || from.get(j) == NONE ? Places.NOTHING
                        : places.meet(from.get(i), to.get(i), from.get(j), to.get(j));
                    if (kind == Places.ONE_PLACE) {
                        insert(places.metFirst());
                    } else if (kind == Places.STRAIGHT) {
                        overlaps.add(10 * i + j);
                        overFirst.add(places.metFirst());
                        overLast.add(places.metLast());
                    }
                }
            }
            for (int t = 0; t < crossings.size(); t++) {
                sets.add(through(crossings.get(t)));
            }
        }

        private void insert(int place) {
            for (int t = 0; t < crossings.size(); t++) {
                int order = places.compare(place, crossings.get(t));
                if (order == 0) {
                    return;
                }
                if (order < 0) {
                    crossings.insert(t, place);
                    return;
                }
            }
            crossings.add(place);
        }

        private int through(int place) {
            int set = 0;
            for (int k = 0; k < LIMIT; k++) {
                if (from.get(k) != NONE && places.isOn(place, from.get(k), to.get(k))) {
                    set |= 1 << k;
                }
            }
            return set;
        }

        int count() {
            return crossings.size();
        }

        int crossing(int i) {
            return crossings.get(i);
        }

        int set(int i) {
            return sets.get(i);
        }

        int overlapCount() {
            return overlaps.size();
        }

        void writeOverlap(StringBuilder page, int i) {
            page.append(overlaps.get(i) / 10).append(overlaps.get(i) % 10);
            places.write(page, overFirst.get(i));
            places.write(page, overLast.get(i));
        }

        /** Whether CROSSINGS and OVERLAPS are those of all pairs. */
        boolean fits() {
            places.begin();
            find();
            int straight = 0;
            for (int i = 0; i < LIMIT; i++) {
                for (int j = i + 1; j < LIMIT; j++) {
                    if (from.get(i) != NONE && from.get(j) != NONE) {
                        int kind = places.meet(from.get(i), to.get(i), from.get(j), to.get(j));
                        straight += kind == Places.STRAIGHT ? 1 : 0;
                        if (kind == Places.ONE_PLACE && !tells(i, j, places.metFirst())) {
                            return false;
                        }
                    }
                }
            }
            return straight == overlaps.size();
        }

        private boolean tells(int i, int j, int place) {
            int both = 1 << i | 1 << j;
            for (int t = 0; t < crossings.size(); t++) {
                if (places.compare(place, crossings.get(t)) == 0) {
                    return (sets.get(t) & both) == both;
                }
            }
            return false;
        }

        /** The FIRST FAULT of the CHAIN. */
        int findFault() {
            int count = sheet.chainSize();
            if (count < 3) {
                return -2;
            }
            int first = places.loadRow(sheet.chainPlace(0), count);
            for (int i = 0; i < count; i++) {
                for (int j = i + 1; j < count; j++) {
                    if (isFault(first, count, i, j)) {
                        return 10 * i + j;
                    }
                }
            }
            return NONE;
        }

        private boolean isFault(int first, int count, int i, int j) {
            int end = j + 1 < count ? first + j + 1 : first;
            int kind = places.meet(first + i, first + i + 1, first + j, end);
            boolean neighbours = j == i + 1 || i == 0 && j == count - 1;
            return neighbours ? kind == Places.STRAIGHT : kind != Places.NOTHING;
        }
    }

    /** The BLEND of two polygons that stand in the table of places. */
    private static final class Blend {
        private static final int NODES = 200;
        private static final int BITS = 500;
        private static final int CORNERS = 12;

        private final Places places;
        private final Row nodes = new Row(NODES);
        private final Row onSide = new Row(NODES);
        private final Row bitFrom = new Row(BITS);
        private final Row bitTo = new Row(BITS);
        private final Row alongP = new Row(BITS);
        private final Row alongQ = new Row(BITS);
        private final Row shardFrom = new Row(BITS);
        private final Row shardTo = new Row(BITS);
        private final Row leaving = new Row(NODES);
        private final Row next = new Row(NODES);
        private final Row outline = new Row(NODES);
        private final Row spare = new Row(NODES);
        private int firstP;
        private int countP;
        private int firstQ;
        private int countQ;

        Blend(Places places) {
            this.places = places;
        }

        /** Finds the SHARDS of the polygon of countP places from firstP on and of that from firstQ on. */
        void make(int firstP, int countP, int firstQ, int countQ, int op) {
            this.firstP = firstP;
            this.countP = countP;
            this.firstQ = firstQ;
            this.countQ = countQ;
            clear();
            for (int i = 0; i < countP; i++) {
                addNode(firstP + i);
            }
            for (int i = 0; i < countQ; i++) {
                addNode(firstQ + i);
            }
            for (int i = 0; i < countP; i++) {
                int endP = i + 1 < countP ? firstP + i + 1 : firstP;
                for (int j = 0; j < countQ; j++) {
                    int endQ = j + 1 < countQ ? firstQ + j + 1 : firstQ;
                    if (places.meet(firstP + i, endP, firstQ + j, endQ) == Places.ONE_PLACE) {
                        addNode(places.metFirst());
                    }
                }
            }
            for (int i = 0; i < countP; i++) {
                cutSide(firstP + i, i + 1 < countP ? firstP + i + 1 : firstP, false);
            }
            for (int i = 0; i < countQ; i++) {
                cutSide(firstQ + i, i + 1 < countQ ? firstQ + i + 1 : firstQ, true);
            }
            for (int b = 0; b < bitFrom.size(); b++) {
                judge(b, op);
            }
            findLeaving();
        }

        void clear() {
            nodes.clear();
            bitFrom.clear();
            bitTo.clear();
            alongP.clear();
            alongQ.clear();
            shardFrom.clear();
            shardTo.clear();
            leaving.clear();
            next.clear();
        }

        private void addNode(int place) {
            for (int i = 0; i < nodes.size(); i++) {
                if (places.compare(nodes.get(i), place) == 0) {
                    return;
                }
            }
            nodes.add(place);
        }

        /** Cuts the side from a to b at all nodes on it, and adds its bits. */
        private void cutSide(int a, int b, boolean ofQ) {
            onSide.clear();
            int forward = places.compare(a, b);
            for (int i = 0; i < nodes.size(); i++) {
                int place = nodes.get(i);
                if (places.isOn(place, a, b)) {
                    int at = 0;
                    for (int k = 0; k < onSide.size(); k++) {
                        at += places.compare(nodes.get(onSide.get(k)), place) == forward ? 1 : 0;
                    }
                    onSide.insert(at, i);
                }
            }
            for (int i = 0; i + 1 < onSide.size(); i++) {
                addBit(onSide.get(i), onSide.get(i + 1), ofQ);
            }
        }

        private void addBit(int from, int to, boolean ofQ) {
            for (int b = 0; b < bitFrom.size() && ofQ; b++) {
                if (bitFrom.get(b) == from && bitTo.get(b) == to) {
                    alongQ.set(b, 1);
                    return;
                }
                if (bitFrom.get(b) == to && bitTo.get(b) == from) {
                    alongQ.set(b, -1);
                    return;
                }
            }
            bitFrom.add(from);
            bitTo.add(to);
            alongP.add(ofQ ? 0 : 1);
            alongQ.add(ofQ ? 1 : 0);
        }

        /** Looks what is on both sides of a bit, and makes a SHARD of it, if they differ. */
        private void judge(int b, int op) {
            int from = nodes.get(bitFrom.get(b));
            int to = nodes.get(bitTo.get(b));
            int p = alongP.get(b);
            int q = alongQ.get(b);
            boolean leftP = p > 0;
            boolean rightP = p < 0;
            boolean leftQ = q > 0;
            boolean rightQ = q < 0;
            if (p == 0 || q == 0) {
                int mark = places.num().mark();
                int middle = places.middle(from, to);
                boolean within = p == 0 ? places.position(firstP, countP, middle) > 0
                    : places.position(firstQ, countQ, middle) > 0;
                leftP = p == 0 ? within : leftP;
                rightP = p == 0 ? within : rightP;
                leftQ = q == 0 ? within : leftQ;
                rightQ = q == 0 ? within : rightQ;
                places.shorten(middle);
                places.num().release(mark);
            }
            boolean left = counts(op, leftP, leftQ);
            if (left != counts(op, rightP, rightQ)) {
                shardFrom.add(left ? bitFrom.get(b) : bitTo.get(b));
                shardTo.add(left ? bitTo.get(b) : bitFrom.get(b));
            }
        }

        private static boolean counts(int op, boolean p, boolean q) {
            switch (op) {
                case 0:
                    return p || q;
                case 1:
                    return p && q;
                case 2:
                    return p && !q;
                default:
                    return p != q;
            }
        }

        private void findLeaving() {
            leaving.fill(nodes.size(), 0);
            next.fill(nodes.size(), NONE);
            for (int s = 0; s < shardFrom.size(); s++) {
                int from = shardFrom.get(s);
                leaving.set(from, leaving.get(from) + 1);
                next.set(from, shardTo.get(s));
            }
        }

        /** How many SHARDS (what 0), CORNERS (1), PINCHES (2); 1, if it is ONE RING (3). */
        int tell(int what) {
            if (what == 0) {
                return shardFrom.size();
            }
            if (what == 3) {
                return findOutline() ? 1 : 0;
            }
            return countLeft(what);
        }

        /** How many places have so many SHARDS or more that lead away: 1 tells CORNERS, 2 PINCHES. */
        private int countLeft(int least) {
            int found = 0;
            for (int i = 0; i < leaving.size(); i++) {
                found += leaving.get(i) >= least ? 1 : 0;
            }
            return found;
        }

        /** Goes along the SHARDS; false, if the BLEND is not ONE RING. */
        private boolean findOutline() {
            outline.clear();
            int count = shardFrom.size();
            if (count == 0 || countLeft(2) > 0) {
                return false;
            }
            int start = shardFrom.get(0);
            int here = start;
            for (int i = 0; i < count && here != NONE; i++) {
                outline.add(nodes.get(here));
                here = next.get(here) == start ? NONE : next.get(here);
            }
            return outline.size() == count;
        }

        /** The sum of twice the AREA, which stands in the reckoner then. */
        void sumArea() {
            Reckoner num = places.num();
            num.startSum();
            for (int s = 0; s < shardFrom.size(); s++) {
                int a = nodes.get(shardFrom.get(s));
                int b = nodes.get(shardTo.get(s));
                int over = num.minor(places.x(a), places.y(a), places.x(b), places.y(b));
                num.addToSum(over, num.mul(places.w(a), places.w(b)));
            }
        }

        /** Writes the BLEND as a POLYGON into the draft; answers how many CORNERS it has, NONE if it can't be one. */
        int draft() {
            return findOutline() ? draftRing(outline) : NONE;
        }

        /** The same for the ring of so many places from first on, which may be clockwise. */
        int draftRow(int first, int count) {
            outline.clear();
            for (int i = 0; i < count; i++) {
                outline.add(first + i);
            }
            return draftRing(outline);
        }

        private int draftRing(Row row) {
            places.dropStraight(row, spare);
            if (row.size() < 3 || row.size() > CORNERS) {
                return NONE;
            }
            places.fromLeast(row, spare);
            if (places.sideOf(row.before(0), row.get(0), row.after(0)) < 0) {
                row.turnRound();
                places.fromLeast(row, spare);
            }
            for (int i = 0; i < row.size(); i++) {
                if (!places.store(row.get(i), places.sheet().draftPlace(i))) {
                    return NONE;
                }
            }
            return row.size();
        }
    }

    /** What can be seen in a polygon, and the shortest ways. */
    private static final class Ways {
        private static final int LIMIT = 12;
        private static final int NODES = 14;
        private static final int ROOTS = 40;
        private static final int ROUNDS = 12;

        private final Places places;
        private final Reckoner num;
        private final Row nodes = new Row(NODES);
        private final Row names = new Row(NODES);
        private final Row sight = new Row(NODES * NODES);
        private final Row cameBy = new Row(NODES * NODES);
        private final Row waiting = new Row(NODES * NODES);
        private final Row bends = new Row(NODES);
        private final Row over = new Row(ROOTS);
        private final Row under = new Row(ROOTS);
        private final Row signs = new Row(ROOTS);
        private int first;
        private int count;
        private int dents;

        Ways(Places places) {
            this.places = places;
            this.num = places.num();
        }

        /** Says in which polygon the following is asked: that of so many places from first on. */
        void enter(int first, int count) {
            this.first = first;
            this.count = count;
            dents = 0;
            for (int i = 0; i < count && i < LIMIT; i++) {
                dents |= places.sideOf(cornerBefore(i), first + i, cornerAfter(i)) < 0 ? 1 << i : 0;
            }
        }

        int countDents() {
            return Integer.bitCount(dents);
        }

        private boolean isDent(int i) {
            return (dents >> i & 1) == 1;
        }

        /** Whether a place is in that polygon, its rim too. */
        boolean holds(int place) {
            return places.position(first, count, place) >= 0;
        }

        private int cornerAfter(int i) {
            return i + 1 < count ? first + i + 1 : first;
        }

        private int cornerBefore(int i) {
            return i > 0 ? first + i - 1 : first + count - 1;
        }

        /** Whether two places of the polygon SEE each other. */
        boolean see(int a, int b) {
            if (places.compare(a, b) == 0) {
                return true;
            }
            for (int i = 0; i < count && i < LIMIT; i++) {
                int corner = first + i;
                int at = places.sideOf(a, b, corner);
                if (at == 0 && places.isBetween(corner, a, b)) {
                    if (!opensTo(i, a) || !opensTo(i, b)) {
                        return false;
                    }
                } else if (sideBars(i, at, a, b)) {
                    return false;
                }
            }
            return true;
        }

        /** Whether the side i stands in the way from a to b, of which its beginning is on that side. */
        private boolean sideBars(int i, int side, int a, int b) {
            int from = first + i;
            int to = cornerAfter(i);
            int atA = places.sideOf(from, to, a);
            int atB = places.sideOf(from, to, b);
            if (atA * atB < 0) {
                return side * places.sideOf(a, b, to) < 0;
            }
            int end = atA == 0 ? a : b;
            return (atA < 0 || atB < 0) && (atA == 0 || atB == 0)
                && places.compare(from, end) * places.compare(end, to) > 0;
        }

        /** Whether the way from the corner i towards d begins in the polygon. */
        private boolean opensTo(int i, int d) {
            int corner = first + i;
            int before = cornerBefore(i);
            int after = cornerAfter(i);
            if (places.compare(corner, d) == 0) {
                return true;
            }
            int in = places.sideOf(before, corner, d);
            int out = places.sideOf(corner, after, d);
            return isDent(i) ? in >= 0 || out >= 0 : in >= 0 && out >= 0;
        }

        /** Finds the BENDS of the WAY from a to b. */
        void find(int a, int b) {
            bends.clear();
            if (see(a, b)) {
                return;
            }
            nodes.clear();
            names.clear();
            addNode(a, NONE);
            addNode(b, NONE);
            for (int i = 0; i < count && i < LIMIT; i++) {
                if (isDent(i) && places.compare(first + i, a) != 0 && places.compare(first + i, b) != 0) {
                    addNode(first + i, i);
                }
            }
            findSight();
            search();
        }

        private void addNode(int place, int name) {
            nodes.add(place);
            names.add(name);
        }

        private void findSight() {
            int n = nodes.size();
            sight.fill(n * n, 0);
            for (int i = 0; i < n; i++) {
                for (int j = i + 1; j < n; j++) {
                    int sees = see(nodes.get(i), nodes.get(j)) ? 1 : 0;
                    sight.set(i * n + j, sees);
                    sight.set(j * n + i, sees);
                }
            }
        }

        /**
         * Looks for the one way that is bent as a drawn thread is. A step is told by n times the node
         * where it begins, plus that where it ends: whether one may go on depends on both.
         */
        private void search() {
            int n = nodes.size();
            cameBy.fill(n * n, NONE);
            waiting.clear();
            for (int v = 1; v < n; v++) {
                if (sight.get(v) == 1) {
                    cameBy.set(v, v);
                    waiting.add(v);
                }
            }
            for (int t = 0; t < NODES * NODES && t < waiting.size(); t++) {
                int step = waiting.get(t);
                int u = step / Math.max(n, 1);
                int v = step - u * n;
                if (v == 1) {
                    collect(step, n);
                    return;
                }
                goOn(u, v, n);
            }
        }

        private void goOn(int u, int v, int n) {
            for (int w = 1; w < n; w++) {
                int step = v * n + w;
                if (w != v && w != u && sight.get(step) == 1 && cameBy.get(step) == NONE && isTaut(u, v, w)) {
                    cameBy.set(step, u * n + v);
                    waiting.add(step);
                }
            }
        }

        /** Whether a thread drawn from u over the DENT v to w is held by it. */
        private boolean isTaut(int u, int v, int w) {
            int from = nodes.get(u);
            int corner = nodes.get(v);
            int to = nodes.get(w);
            int bend = places.sideOf(from, corner, to);
            int before = cornerBefore(names.get(v));
            int after = cornerAfter(names.get(v));
            return bend != 0
                && places.sideOf(from, corner, before) * bend >= 0 && places.sideOf(corner, to, before) * bend >= 0
                && places.sideOf(from, corner, after) * bend >= 0 && places.sideOf(corner, to, after) * bend >= 0;
        }

        private void collect(int last, int n) {
            int step = last;
            for (int i = 0; i < NODES && step != cameBy.get(step); i++) {
                bends.add(step / Math.max(n, 1));
                step = cameBy.get(step);
            }
            bends.turnRound();
        }

        void writeBends(StringBuilder page) {
            for (int i = 0; i < bends.size(); i++) {
                page.append('/').append(names.get(bends.get(i)));
            }
        }

        void clearRoots() {
            over.clear();
            under.clear();
            signs.clear();
        }

        /** Adds the LENGTH of the WAY from a to b that was found last, as roots, or takes it off. */
        void addLength(int a, int b, int sign) {
            int here = a;
            for (int i = 0; i < bends.size(); i++) {
                int bend = nodes.get(bends.get(i));
                addRoot(here, bend, sign);
                here = bend;
            }
            if (a != b) {
                addRoot(here, b, sign);
            }
        }

        private void addRoot(int a, int b, int sign) {
            int o = places.squareOver(a, b);
            int u = places.squareUnder(a, b);
            int common = num.gcd(o, u);
            over.add(num.div(o, common));
            under.add(num.div(u, common));
            signs.add(sign);
        }

        /** The greatest whole number that is no greater than 1000 times the sum of the roots. */
        int thousandfold() {
            if (over.size() == 0) {
                return 0;
            }
            boolean fractions = true;
            for (int i = 0; i < over.size() && fractions; i++) {
                fractions = num.isSquare(over.get(i)) && num.isSquare(under.get(i));
            }
            return fractions ? exactThousandfold() : nearThousandfold();
        }

        private int exactThousandfold() {
            num.startSum();
            for (int i = 0; i < over.size(); i++) {
                num.addToSum(num.root(over.get(i)), num.root(under.get(i)));
            }
            return (int) num.value(num.div(num.mul(num.of(1000), num.sumOver()), num.sumUnder()));
        }

        /** With roots that are no fractions the sum is never whole: some precision always tells it. */
        private int nearThousandfold() {
            int result = 0;
            int limbs = 1;
            for (int round = 0; round < ROUNDS; round++) {
                int mark = num.mark();
                int unit = num.raise(num.of(1), limbs);
                int low = num.mul(num.of(1000), sumOfRoots(limbs));
                int high = num.add(low, num.of(1000L * over.size()), 1);
                int floor = num.div(low, unit);
                result = (int) num.value(floor);
                boolean told = num.compare(num.div(high, unit), floor) == 0;
                num.release(mark);
                if (told) {
                    return result;
                }
                limbs = 2 * limbs;
            }
            return result;
        }

        /** The sum of all roots, each rounded down to so many limbs behind the comma. */
        private int sumOfRoots(int limbs) {
            int sum = num.of(0);
            for (int i = 0; i < over.size(); i++) {
                int root = num.root(num.div(num.raise(over.get(i), 2 * limbs), under.get(i)));
                sum = num.add(sum, root, signs.get(i));
            }
            return sum;
        }

        /** The sign of the sum of the roots. */
        int signOfRoots() {
            if (allCancel()) {
                return 0;
            }
            int limbs = 1;
            int s = 0;
            for (int round = 0; round < ROUNDS; round++) {
                int mark = num.mark();
                int sum = sumOfRoots(limbs);
                int doubt = num.of(over.size());
                s = num.sign(sum);
                boolean told = num.compare(num.mul(num.of(s), sum), doubt) > 0;
                num.release(mark);
                if (told) {
                    return s;
                }
                limbs = 2 * limbs;
            }
            return s;
        }

        /** Whether the sum is 0: then those roots that are fractions of one another make 0 for themselves. */
        private boolean allCancel() {
            for (int i = 0; i < over.size(); i++) {
                if (!cancels(i)) {
                    return false;
                }
            }
            return true;
        }

        private boolean cancels(int i) {
            int mark = num.mark();
            int own = num.mul(over.get(i), under.get(i));
            num.startSum();
            for (int j = 0; j < over.size(); j++) {
                int both = num.mul(own, num.mul(over.get(j), under.get(j)));
                int root = num.root(both);
                if (num.compare(num.mul(root, root), both) == 0) {
                    num.addToSum(num.mul(root, num.of(signs.get(j))), num.mul(over.get(i), under.get(j)));
                }
            }
            boolean zero = num.sign(num.sumOver()) == 0;
            num.release(mark);
            return zero;
        }
    }
}
