import java.lang.reflect.InvocationTargetException;
import java.lang.reflect.Method;
import java.util.ArrayList;
import java.util.Collections;
import java.util.List;
import java.util.Random;
import java.util.TreeMap;

/**
 * Plays runs by chance on the program and on SecondPlane (src/test/second), and holds every answer of the
 * one against that of the other. The runs are the same each time. Arguments: the first run and how many.
 */
public final class ByChance {
    private static final int RUNS = 90;
    private static final int CALLS = 150;
    private static final int NONE = -1;
    private static final String[] OF_ALL = {
        "pointText k", "square kk", "side kkk", "circle kkkk", "hullSize", "hullAt i", "hullText w", "flattest",
        "pairOf v", "leastSet", "leastText w", "triangles", "triangle i", "edges", "paper", "regionSize k",
        "regionText kw", "crossings", "crossText i", "crossSet i", "overlaps", "overlapText i", "fault",
        "ofPolygon pv", "polygonText pw", "where pk", "blend ppvv", "blendArea ppv", "cutArea pkk", "roomSize",
        "roomText w", "barring", "sees phh", "seen ph", "wayText phh", "wayLength phh", "longer phhhh", "plane u",
        "isSound", "digest"};
    private static final String[] OF_SHAPES = {
        "ofPolygon pv", "polygonText pw", "where pk", "blend ppvv", "blend ppvv", "blendArea ppv", "cutArea pkk", "fault"};
    private static final String[] OF_SWARM = {
        "side kkk", "circle kkkk", "hullSize", "hullAt i", "hullText w", "flattest", "pairOf v", "leastSet", "leastText w",
        "triangles", "triangle i", "edges", "paper", "regionSize k", "regionText kw"};
    private static final String[] OF_LINES = {
        "crossings", "crossText i", "crossSet i", "overlaps", "overlapText i", "roomSize", "roomText w", "barring"};
    private static final String[] OF_WAYS = {
        "sees phh", "seen ph", "wayText phh", "wayText phh", "wayLength phh", "longer phhhh", "where pk", "ofPolygon pv"};
    private static final int FINE = 5;
    private static final String[][] ASKED = {OF_ALL, OF_SHAPES, OF_SWARM, OF_LINES, OF_WAYS, OF_ALL};

    private final Random chance;
    private final List<String> told = new ArrayList<>();
    private final int[][] drawn = new int[10][];
    private Nocommaplane plane;
    private SecondPlane second;
    private int reach;
    private int finest;

    private ByChance(int run) {
        chance = new Random(5604L * (run + 1));
    }

    public static void main(String[] args) throws Exception {
        int from = args.length > 0 ? Integer.parseInt(args[0]) : 0;
        int count = args.length > 1 ? Integer.parseInt(args[1]) : RUNS;
        int calls = 0;
        int wrong = 0;
        for (int run = from; run < from + count; run++) {
            ByChance one = new ByChance(run);
            if (!one.play(run)) {
                wrong++;
                System.out.println("run " + run + ":");
                one.told.forEach(System.out::println);
            }
            calls += one.told.size();
        }
        System.out.println(count + " runs by chance, " + calls + " calls, " + wrong + " wrong");
        if (wrong > 0) {
            System.exit(1);
        }
    }

    private boolean play(int run) throws IllegalAccessException {
        plane = new Nocommaplane();
        second = new SecondPlane();
        int kind = run % ASKED.length;
        int[] reaches = kind == 3 ? new int[] {2, 2, 3, 4} : kind >= 4 ? new int[] {3, 4, 6} : new int[] {2, 3, 5, 9, 50};
        reach = reaches[below(reaches.length)];
        finest = below(3) > 0 ? 1 : below(2) == 0 ? 12 : 3;
        boolean fine = true;
        for (int i = 0; i < 3 && fine; i++) {
            fine = kind == 1 || kind >= 4 ? drawPolygon() : putAny() && putAny() && (kind == 3 ? putInLine() : putAny());
        }
        fine = fine && (kind < 4 || fill());
        while (told.size() < CALLS && fine) {
            fine = step(kind);
            for (int i = 0; i < (kind < 4 ? 3 : 8) && fine; i++) {
                fine = ask(ASKED[kind == FINE ? below(FINE) : kind]);
            }
        }
        return fine && call("digest");
    }

    private boolean step(int kind) throws IllegalAccessException {
        switch (kind) {
            case 0:
                return mixed();
            case 1:
                return shapes();
            case 2:
                return swarm();
            case 3:
                return lines();
            case FINE:
                return fine();
            default:
                return ways();
        }
    }

    /** Now and then all that can turn makes one TURN, so that what lay on a rim lies there still, ever finer. */
    private boolean fine() throws IllegalAccessException {
        if (below(3) > 0) {
            return below(3) == 0 ? lines() : below(2) == 0 ? shapes() : ways();
        }
        int k = anyPoint();
        int m = 1 + below(6);
        int n = below(13) - 6;
        boolean same = true;
        for (int times = below(5); times >= 0 && same; times--) {
            same = call("turn", k, m, n);
            for (int p = 0; p < 4 && same; p++) {
                same = call("swing", p, k, m, n);
            }
        }
        return same;
    }

    private int below(int bound) {
        return chance.nextInt(bound);
    }

    private boolean mixed() throws IllegalAccessException {
        switch (below(12)) {
            case 0:
            case 1:
            case 2:
                return putAny();
            case 3:
                return call("take", anyPoint());
            case 4:
                return call("turn", anyPoint(), below(8), below(15) - 7);
            case 5:
                return call("undo");
            case 6:
                return call("knock");
            case 7:
                return lines();
            case 8:
                return call("wipe");
            default:
                return shapes();
        }
    }

    private boolean putAny() throws IllegalAccessException {
        int xd = below(40) == 0 ? below(15) - 1 : 1 + below(finest);
        int yd = below(40) == 0 ? below(15) - 1 : 1 + below(finest);
        return call("put", number(xd), xd, number(yd), yd);
    }

    /** In the whole BOX most often tens, so that sides lie on its rim and in a line. */
    private int number(int under) {
        if (reach == 50 && below(3) > 0) {
            return 10 * under * (below(3) == 0 ? 10 * below(2) - 5 : below(11) - 5);
        }
        int most = Math.abs(reach * under) + (below(30) == 0 ? 1 : 0);
        return below(8) == 0 ? most * (below(2) * 2 - 1) : below(2 * most + 1) - most;
    }

    private boolean swarm() throws IllegalAccessException {
        switch (below(8)) {
            case 0:
                return call("take", anyPoint());
            case 1:
                return call("turn", anyPoint(), 1 + below(6), below(13) - 6);
            case 2:
                return call("undo");
            default:
                return below(3) == 0 ? putRound() : putAny();
        }
    }

    /** One of twelve places on a circle, and of the places on it that are opposite. */
    private boolean putRound() throws IllegalAccessException {
        int[][] round = {{5, 0}, {4, 3}, {3, 4}, {0, 5}, {-3, 4}, {-4, 3}, {-5, 0}, {-4, -3}, {-3, -4}, {0, -5},
            {3, -4}, {4, -3}};
        int[] at = round[below(12)];
        return call("put", at[0], finest, at[1], finest);
    }

    private boolean lines() throws IllegalAccessException {
        switch (below(10)) {
            case 0:
                return call("dropPiece", below(9));
            case 1:
                return call("dropHalf", below(7));
            case 2:
            case 3:
            case 4:
                return call("piece", anyPoint(), anyPoint());
            case 5:
            case 6:
                return call("half", anyPoint(), anyPoint());
            case 7:
                return below(2) == 0 ? call("undo") : call("turn", anyPoint(), 1 + below(6), below(13) - 6);
            case 8:
                return call("take", anyPoint()) && putInLine();
            default:
                return putAny() && putInLine() && putInLine() && putInLine();
        }
    }

    /** On one of two lines, so that PIECES overlap and HALFPLANES meet at one place. */
    private boolean putInLine() throws IllegalAccessException {
        int x = number(1);
        return call("put", x, 1, below(2) * x, 1);
    }

    private boolean shapes() throws IllegalAccessException {
        switch (below(12)) {
            case 0:
            case 1:
            case 2:
                return drawPolygon();
            case 3:
                return call("join", anyPolygon(), anyPolygon(), below(4));
            case 4:
                return call("cut", anyPolygon(), anyPoint(), anyPoint());
            case 5:
                return call("swing", anyPolygon(), anyPoint(), 1 + below(6), below(13) - 6);
            case 6:
                return call("shift", anyPolygon(), below(2 * reach + 1) - reach, below(2 * reach + 1) - reach);
            case 7:
                return call("undo");
            case 8:
                return below(2) == 0 ? call("dropPolygon", anyPolygon()) : call("corner", anyPoint());
            case 9:
                return call("join", anyPolygon(), anyPolygon(), 0);
            default:
                return putAny();
        }
    }

    /** Makes room, puts in some POINTS, and goes through them so that no two sides cross (but they may touch). */
    private boolean drawPolygon() throws IllegalAccessException {
        int count = 3 + Math.max(below(6), Math.max(below(6), below(6)));
        boolean fine = second.plane(4) == 0 || call("wipe");
        fine = fine && (second.plane(2) < 15 || call("dropPolygon", below(4)));
        for (int k = 0; k < 10 && fine && Integer.bitCount(second.plane(0)) > 10 - count; k++) {
            fine = second.plane(0) >> k << 31 == 0 || call("take", k);
        }
        List<Integer> row = new ArrayList<>();
        for (int tries = 0; tries < 20 && row.size() < count && fine; tries++) {
            int before = second.plane(0);
            fine = putAny();
            if (second.plane(0) != before) {
                row.add(Integer.numberOfTrailingZeros(second.plane(0) & ~before));
            }
        }
        Collections.shuffle(row, chance);
        untangle(row);
        for (int k : row) {
            fine = fine && call("corner", k);
        }
        return fine && call("fault") && call("close");
    }

    /** Turns the part between two sides that cross round, until none cross (most often). */
    private void untangle(List<Integer> row) {
        int count = row.size();
        for (int round = 0; round < 40 * count * count; round++) {
            int low = below(count);
            int high = below(count);
            if (low < high && cross(row.get(low), row.get(low + 1), row.get(high), row.get((high + 1) % count))) {
                Collections.reverse(row.subList(low + 1, high + 1));
            }
        }
    }

    private boolean cross(int a, int b, int c, int d) {
        return turn(a, b, c) * turn(a, b, d) < 0 && turn(c, d, a) * turn(c, d, b) < 0;
    }

    private double turn(int a, int b, int c) {
        return (at(b, 0) - at(a, 0)) * (at(c, 2) - at(a, 2)) - (at(b, 2) - at(a, 2)) * (at(c, 0) - at(a, 0));
    }

    private double at(int k, int axis) {
        int[] values = drawn[k];
        return values == null ? 0 : (double) values[axis] / values[axis + 1];
    }

    /** Puts in a POINT at a CORNER, at the middle between two, or at the middle of such a one and a third. */
    private boolean putInside(int p) throws IllegalAccessException {
        String[] text = second.polygonText(p, 1).replaceAll("^\\(|\\)$", "").split("\\)\\(");
        long[] sum = new long[2];
        int share = new int[] {1, 2, 2, 4, 3}[below(5)];
        String[] one = null;
        for (int i = 0; i < share; i++) {
            one = one == null || share < 4 || below(2) == 0 ? text[below(text.length)].split(",") : one;
            if (one[0].contains("/") || one[1].contains("/")) {
                return putAny();
            }
            sum[0] += Long.parseLong(one[0]);
            sum[1] += Long.parseLong(one[1]);
        }
        return call("put", (int) sum[0], share, (int) sum[1], share);
    }

    private boolean ways() throws IllegalAccessException {
        switch (below(24)) {
            case 0:
                return call("join", anyPolygon(), anyPolygon(), below(4));
            case 1:
                return call("cut", anyPolygon(), anyPoint(), anyPoint());
            case 2:
                return call("swing", anyPolygon(), anyPoint(), 1 + below(6), below(13) - 6);
            case 3:
                return call("turn", anyPoint(), 1 + below(6), below(13) - 6);
            case 4:
                return call("undo");
            case 5:
            case 6:
                return drawPolygon() && fill();
            default:
                return true;
        }
    }

    /** Takes out all POINTS but one, and puts in others, most of them inside of a POLYGON. */
    private boolean fill() throws IllegalAccessException {
        boolean fine = true;
        for (int k = 0; k < 9 && fine; k++) {
            fine = (second.plane(0) >> k & 1) == 0 || call("take", k);
        }
        int p = anyPolygon();
        boolean there = p >= 0 && p < 4 && (second.plane(2) >> p & 1) == 1;
        for (int tries = 0; tries < 30 && fine && second.plane(0) < 1023; tries++) {
            int before = second.plane(0);
            fine = there && below(2) == 0 ? putInside(p) : putAny();
            int put = second.plane(0) & ~before;
            if (there && put != 0 && second.where(p, Integer.numberOfTrailingZeros(put)) < 0) {
                fine = fine && call("take", Integer.numberOfTrailingZeros(put));
            }
        }
        return fine;
    }

    private boolean ask(String[] all) throws IllegalAccessException {
        String[] asked = all[below(all.length)].split(" ");
        String signs = asked.length > 1 ? asked[1] : "";
        int[] values = new int[signs.length()];
        int p = NONE;
        for (int i = 0; i < values.length; i++) {
            values[i] = argument(asked[0], signs.charAt(i), p);
            p = signs.charAt(i) == 'p' ? values[i] : p;
        }
        return call(asked[0], values);
    }

    private int argument(String name, char sign, int p) {
        switch (sign) {
            case 'p':
                return anyPolygon();
            case 'k':
                return anyPoint();
            case 'h':
                return anyWithin(p);
            case 'i':
                int size = sizeOfRow(name);
                return below(size + 1) - (below(20) == 0 ? 1 : 0);
            default:
                int bound = sign == 'w' ? 2 : sign == 'v' ? 4 : 7;
                return below(25) == 0 ? below(bound + 2) - 1 : below(bound);
        }
    }

    private int sizeOfRow(String name) {
        return name.equals("hullAt") ? second.hullSize() : name.equals("triangle") ? second.triangles()
            : name.equals("overlapText") ? second.overlaps() : second.crossings();
    }

    /** Most often a POINT that is not outside of the POLYGON. */
    private int anyWithin(int p) {
        int set = 0;
        for (int k = 0; k < 10; k++) {
            boolean asked = p >= 0 && p < 4 && (second.plane(2) >> p & 1) == 1 && (second.plane(0) >> k & 1) == 1;
            set |= asked && second.where(p, k) >= 0 ? 1 << k : 0;
        }
        return anyOf(set == 0 || below(15) == 0 ? second.plane(0) : set, 10);
    }

    private int anyPoint() {
        return anyOf(second.plane(0), 10);
    }

    private int anyPolygon() {
        return anyOf(second.plane(2), 4);
    }

    private int anyOf(int set, int limit) {
        if (set == 0 || below(40) == 0) {
            return below(limit + 2) - 1;
        }
        int k = below(limit);
        while ((set >> k & 1) == 0) {
            k = (k + 1) % limit;
        }
        return k;
    }

    private boolean call(String name, int... values) throws IllegalAccessException {
        String due = answer(second, name, values);
        String got = answer(plane, name, values);
        StringBuilder line = new StringBuilder(name);
        for (int value : values) {
            line.append(' ').append(value);
        }
        told.add(line + " = " + got + (got.equals(due) ? "" : "   but due is " + due));
        if (name.equals("put") && got.matches("\\d")) {
            drawn[Integer.parseInt(got)] = values.clone();
        }
        return got.equals(due);
    }

    private static final TreeMap<String, Method> METHODS = new TreeMap<>();

    private static String answer(Object on, String name, int... values) throws IllegalAccessException {
        Method method = METHODS.computeIfAbsent(on.getClass().getName() + "." + name, key -> find(on, name));
        Object[] boxed = new Object[values.length];
        for (int i = 0; i < boxed.length; i++) {
            boxed[i] = values[i];
        }
        try {
            return String.valueOf(method.invoke(on, boxed));
        } catch (InvocationTargetException e) {
            return "throws." + e.getCause().getClass().getSimpleName();
        }
    }

    private static Method find(Object on, String name) {
        for (Method method : on.getClass().getMethods()) {
            if (method.getName().equals(name) && method.getDeclaringClass() == on.getClass()) {
                return method;
            }
        }
        throw new IllegalStateException("no method " + name);
    }
}
