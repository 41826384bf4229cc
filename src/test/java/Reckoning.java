import java.lang.reflect.Constructor;
import java.lang.reflect.InvocationTargetException;
import java.lang.reflect.Method;
import java.math.BigInteger;
import java.util.ArrayList;
import java.util.List;
import java.util.Random;
import java.util.TreeMap;

/**
 * Holds the program's whole numbers without a bound against those of the library, with limbs of which some
 * are at the edges of what a limb can be: there a division's guess is wrong, which seldom comes about in a plane.
 */
public final class Reckoning {
    private static final int ROUNDS = 60000;
    private static final int[] LIMBS = {0, 1, 2, 3, 0x0fffffff, 0x10000000, 0x3fffffff, 0x40000000, 0x40000001,
        0x7ffffffe, 0x7fffffff};

    private final Random chance = new Random(5604);
    private final TreeMap<String, Method> methods = new TreeMap<>();
    private final Object reckoner;
    private int wrong;

    private Reckoning() throws ReflectiveOperationException {
        Class<?> type = Class.forName("Nocommaplane$Reckoner");
        Constructor<?> maker = type.getDeclaredConstructor();
        maker.setAccessible(true);
        reckoner = maker.newInstance();
        for (Method method : type.getDeclaredMethods()) {
            method.setAccessible(true);
            methods.put(method.getName(), method);
        }
    }

    public static void main(String[] args) throws ReflectiveOperationException {
        Reckoning test = new Reckoning();
        List<BigInteger> edges = test.edges();
        for (int round = 0; round < ROUNDS && test.wrong < 10; round++) {
            test.check(test.number(edges), test.number(edges));
        }
        for (BigInteger a : edges) {
            test.check(a, edges.get(test.chance.nextInt(edges.size())));
        }
        System.out.println("reckoning: " + test.wrong + " wrong");
        if (test.wrong > 0) {
            System.exit(1);
        }
    }

    private int call(String name, Object... values) throws ReflectiveOperationException {
        try {
            Object answer = methods.get(name).invoke(reckoner, values);
            return answer instanceof Boolean ? (Boolean) answer ? 1 : 0 : answer == null ? 0 : (Integer) answer;
        } catch (InvocationTargetException e) {
            throw new IllegalStateException(name, e.getCause());
        }
    }

    /** All numbers of one to three such limbs. */
    private List<BigInteger> edges() {
        List<BigInteger> edges = new ArrayList<>();
        for (int high : LIMBS) {
            for (int middle : LIMBS) {
                for (int low : LIMBS) {
                    edges.add(joined(List.of(low, middle, high)));
                }
            }
        }
        return edges;
    }

    private static BigInteger joined(List<Integer> limbs) {
        BigInteger sum = BigInteger.ZERO;
        for (int i = limbs.size() - 1; i >= 0; i--) {
            sum = sum.shiftLeft(31).add(BigInteger.valueOf(limbs.get(i)));
        }
        return sum;
    }

    private BigInteger number(List<BigInteger> edges) {
        List<Integer> limbs = new ArrayList<>();
        int count = chance.nextInt(7);
        for (int i = 0; i < count; i++) {
            limbs.add(chance.nextInt(4) == 0 ? chance.nextInt() >>> 1 : LIMBS[chance.nextInt(LIMBS.length)]);
        }
        BigInteger size = chance.nextBoolean() ? edges.get(chance.nextInt(edges.size())) : joined(limbs);
        return chance.nextInt(3) == 0 ? size.negate() : size;
    }

    private int make(BigInteger value) throws ReflectiveOperationException {
        int sum = call("of", 0L);
        BigInteger size = value.abs();
        for (int shift = size.bitLength() / 31 * 31; shift >= 0; shift -= 31) {
            long limb = size.shiftRight(shift).longValue() & Integer.MAX_VALUE;
            sum = call("add", call("raise", sum, 1), call("of", limb), 1);
        }
        return value.signum() < 0 ? call("add", call("of", 0L), sum, -1) : sum;
    }

    private String text(int over, int under) throws ReflectiveOperationException {
        StringBuilder page = new StringBuilder();
        call("writeFraction", page, over, under);
        return page.toString();
    }

    private void due(String what, String got, Object due) {
        if (!got.equals(due.toString())) {
            wrong++;
            System.out.println(what + " answered " + got + ", due is " + due);
        }
    }

    private void check(BigInteger a, BigInteger b) throws ReflectiveOperationException {
        int mark = call("mark");
        int x = make(a);
        int y = make(b);
        int one = call("of", 1L);
        String both = a + " and " + b;
        due("text of " + a, text(x, one), a);
        due("sum of " + both, text(call("add", x, y, 1), one), a.add(b));
        due("difference of " + both, text(call("add", x, y, -1), one), a.subtract(b));
        due("product of " + both, text(call("mul", x, y), one), a.multiply(b));
        due("minor of " + both, text(call("minor", x, y, y, x), one), a.multiply(a).subtract(b.multiply(b)));
        due("order of " + both, String.valueOf(call("compare", x, y)), a.compareTo(b));
        due("sign of " + a, String.valueOf(call("sign", x)), a.signum());
        due("greatest measure of " + both, text(call("gcd", x, y), one), a.gcd(b));
        if (b.signum() != 0) {
            int quotient = call("div", x, y);
            int rest = call("rest");
            due("quotient of " + both, text(quotient, one), a.divide(b));
            due("rest of " + both, text(rest, one), a.remainder(b));
        }
        BigInteger size = a.abs();
        due("root of " + size, text(call("root", make(size)), one), size.sqrt());
        due("square of " + a, String.valueOf(call("isSquare", call("mul", x, x))), 1);
        boolean isSquare = size.sqrt().pow(2).equals(size);
        due("whether a square is " + size, String.valueOf(call("isSquare", make(size))), isSquare ? 1 : 0);
        if (b.signum() > 0) {
            BigInteger common = a.gcd(b);
            String under = b.divide(common).equals(BigInteger.ONE) ? "" : "/" + b.divide(common);
            due("fraction of " + both, text(x, y), a.divide(common) + under);
        }
        call("release", mark);
    }
}
