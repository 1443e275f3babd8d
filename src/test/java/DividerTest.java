import java.lang.reflect.Constructor;
import java.lang.reflect.Field;
import java.lang.reflect.Method;
import java.math.BigInteger;
import java.util.Random;

/**
 * The class's own long division, with digits next to the ends of what a digit can be. Calls of the
 * face get there too seldom to find a fault in it, so this test looks inside.
 */
public final class DividerTest {
    private static final int DIGIT_BITS = 31;
    private static final int[] ENDS = {0, 1, 2, 0x3fffffff, 0x40000000, 0x40000001, 0x7ffffffe, 0x7fffffff};
    private static final int CASES = 40000;

    private final Object divider;
    private final Object fraction;
    private final Method reduce;
    private final Random random = new Random(1);

    private DividerTest() throws ReflectiveOperationException {
        Class<?> type = Class.forName("GradientDesk$Divider");
        divider = open(type.getDeclaredConstructor()).newInstance();
        Class<?> fractions = Class.forName("GradientDesk$Fraction");
        fraction = open(fractions.getDeclaredConstructor(int.class)).newInstance(132);
        reduce = type.getDeclaredMethod("reduce", fractions);
        reduce.setAccessible(true);
    }

    public static void main(String[] args) throws ReflectiveOperationException {
        DividerTest test = new DividerTest();
        for (int k = 0; k < CASES; k++) {
            test.reduceOne();
        }
        Check.end();
    }

    private static Constructor<?> open(Constructor<?> constructor) {
        constructor.setAccessible(true);
        return constructor;
    }

    /** A fraction with a common divisor, such as reckon() and gradient() come to. */
    private void reduceOne() throws ReflectiveOperationException {
        BigInteger common = some();
        BigInteger p = some().multiply(common);
        BigInteger q = some().multiply(common);
        if (q.signum() == 0) {
            return;
        }
        boolean below = random.nextBoolean();
        fill("p", p, below);
        fill("q", q, false);
        reduce.invoke(divider, fraction);
        BigInteger most = p.gcd(q);
        Check.due("p of " + p + "/" + q, read("p").toString(), p.divide(most).toString());
        Check.due("q of " + p + "/" + q, read("q").toString(), q.divide(most).toString());
        Check.due("sign of p of " + p + "/" + q, sign(), below ? -p.signum() : p.signum());
    }

    private BigInteger some() {
        BigInteger x = BigInteger.ZERO;
        int size = 1 + random.nextInt(random.nextInt(10) == 0 ? 60 : 6);
        for (int k = 0; k < size; k++) {
            x = x.shiftLeft(DIGIT_BITS).add(BigInteger.valueOf(digit()));
        }
        return x;
    }

    private int digit() {
        return random.nextInt(8) == 0 ? random.nextInt(Integer.MAX_VALUE) : ENDS[random.nextInt(ENDS.length)];
    }

    private static Field field(Object of, String name) throws ReflectiveOperationException {
        Field field = of.getClass().getDeclaredField(name);
        field.setAccessible(true);
        return field;
    }

    private void fill(String which, BigInteger size, boolean below) throws ReflectiveOperationException {
        Object whole = field(fraction, which).get(fraction);
        int[] digits = (int[]) field(whole, "digits").get(whole);
        int n = (size.bitLength() + DIGIT_BITS - 1) / DIGIT_BITS;
        for (int i = 0; i < n; i++) {
            digits[i] = size.shiftRight(DIGIT_BITS * i).intValue() & 0x7fffffff;
        }
        field(whole, "size").setInt(whole, n);
        field(whole, "sign").setInt(whole, below ? -size.signum() : size.signum());
    }

    private BigInteger read(String which) throws ReflectiveOperationException {
        Object whole = field(fraction, which).get(fraction);
        int[] digits = (int[]) field(whole, "digits").get(whole);
        BigInteger size = BigInteger.ZERO;
        for (int i = field(whole, "size").getInt(whole) - 1; i >= 0; i--) {
            size = size.shiftLeft(DIGIT_BITS).add(BigInteger.valueOf(digits[i]));
        }
        return size;
    }

    private int sign() throws ReflectiveOperationException {
        Object whole = field(fraction, "p").get(fraction);
        return field(whole, "sign").getInt(whole);
    }
}
