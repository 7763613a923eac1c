import java.lang.reflect.InvocationTargetException;
import java.lang.reflect.Method;
import java.math.BigInteger;
import java.util.Random;

/** Fractions of great numbers, which no small frame brings: the class's own comparison against exact products. */
public final class ComparesFractions {
    public static void main(String[] args) throws ReflectiveOperationException {
        Method compare = null;
        for (Class<?> c : HingeFrames.class.getDeclaredClasses()) {
            if (c.getSimpleName().equals("Whole")) {
                compare = c.getDeclaredMethod("compareFractions", long.class, long.class, long.class, long.class);
            }
        }
        if (compare == null) {
            System.out.println("no compareFractions");
            System.exit(1);
            return;
        }
        compare.setAccessible(true);
        int wrong = 0;
        Random r = new Random(5);
        for (int i = 0; i < 200000; i++) {
            int bits = 1 + r.nextInt(62);
            long a = number(r, bits);
            long b = number(r, bits) + 1;
            long c = number(r, bits);
            long d = number(r, bits) + 1;
            if (r.nextInt(3) == 0) {
                long k = 1 + r.nextInt(1000);
                a = number(r, Math.min(bits, 52)) + 1;
                b = number(r, Math.min(bits, 52)) + 1;
                c = a * k + r.nextInt(2);
                d = b * k;
            }
            wrong += check(compare, a, b, c, d);
        }
        System.out.println(wrong + " fractions compared wrongly");
        if (wrong != 0) {
            System.exit(1);
        }
    }

    private static long number(Random r, int bits) {
        return r.nextLong() >>> 1 & (1L << bits) - 1;
    }

    private static int check(Method compare, long a, long b, long c, long d)
            throws IllegalAccessException, InvocationTargetException {
        int got = (Integer) compare.invoke(null, a, b, c, d);
        int due = BigInteger.valueOf(a).multiply(BigInteger.valueOf(d)).compareTo(BigInteger.valueOf(c).multiply(BigInteger.valueOf(b)));
        if (Integer.signum(got) == due) {
            return 0;
        }
        System.out.println(a + " / " + b + " against " + c + " / " + d + ": " + got);
        return 1;
    }
}
