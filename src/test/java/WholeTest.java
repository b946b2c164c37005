import java.lang.reflect.Constructor;
import java.lang.reflect.Field;
import java.lang.reflect.Method;
import java.math.BigDecimal;
import java.math.BigInteger;
import java.math.MathContext;
import java.util.Arrays;
import java.util.Random;

/**
 * The program's numbers without bounds, which no call shows whole, against BigInteger: steps drawn from fixed seeds,
 * mostly round the powers of 2 at which a number takes another digit, or leaves int or long.
 */
public final class WholeTest {
    private static final Class<?> WHOLE = whole();
    private static final int ROUNDS = 2000;
    private static final int STEPS = 40;
    private static final int SPARE = 3;
    private static final int[] POWERS = {0, 1, 8, 31, 32, 47, 48, 49, 62, 63, 64, 95, 96, 97, 144, 500};
    private static int steps;

    private final Random random;
    private final Object[] ours = new Object[4];
    private final BigInteger[] due = new BigInteger[3];

    private WholeTest(long seed) {
        random = new Random(seed);
        for (int i = 0; i < ours.length; i++) {
            ours[i] = made();
        }
        Arrays.fill(due, BigInteger.ZERO);
    }

    private static Class<?> whole() {
        for (Class<?> each : Valvekeeper.class.getDeclaredClasses()) {
            if (each.getSimpleName().equals("Whole")) {
                return each;
            }
        }
        throw new IllegalStateException("no class Whole");
    }

    private static Object made() {
        try {
            Constructor<?> constructor = WHOLE.getDeclaredConstructor();
            constructor.setAccessible(true);
            return constructor.newInstance();
        } catch (ReflectiveOperationException e) {
            throw new IllegalStateException(e);
        }
    }

    private static Object field(Object of, String name) {
        try {
            Field field = WHOLE.getDeclaredField(name);
            field.setAccessible(true);
            return field.get(of);
        } catch (ReflectiveOperationException e) {
            throw new IllegalStateException(e);
        }
    }

    private static Object call(Object on, String name, Object... args) {
        for (Method method : WHOLE.getDeclaredMethods()) {
            boolean fits = method.getName().equals(name) && method.getParameterCount() == args.length;
            for (int i = 0; fits && i < args.length; i++) {
                Class<?> type = method.getParameterTypes()[i];
                fits = type == int.class && args[i] instanceof Integer || type == long.class && args[i] instanceof Long
                    || type == args[i].getClass();
            }
            if (fits) {
                try {
                    method.setAccessible(true);
                    return method.invoke(on, args);
                } catch (ReflectiveOperationException e) {
                    throw new IllegalStateException(name, e);
                }
            }
        }
        throw new IllegalStateException("no method " + name + Arrays.toString(args));
    }

    private static BigInteger value(Object whole) {
        long[] digits = (long[]) field(whole, "digits");
        BigInteger value = BigInteger.ZERO;
        for (int i = (int) field(whole, "length") - 1; i >= 0; i--) {
            value = value.shiftLeft(48).add(BigInteger.valueOf(digits[i]));
        }
        return value;
    }

    private static void need(boolean holds, String what) {
        if (!holds) {
            System.out.println(what);
            System.exit(1);
        }
        steps++;
    }

    private static BigInteger down(BigInteger value, long by) {
        return value.subtract(value.mod(BigInteger.valueOf(by))).divide(BigInteger.valueOf(by));
    }

    private long near(int mostPower) {
        int power = POWERS[random.nextInt(POWERS.length)];
        long value = power > mostPower
            ? random.nextLong() >> 63 - random.nextInt(mostPower) : (1L << power) + random.nextInt(3) - 1;
        return random.nextBoolean() ? value : -value;
    }

    /** A number near a power of 2, or near a multiple of one, by setting it and adding to it. */
    private void set(int which) {
        long start = near(63);
        call(ours[which], "setTo", start);
        due[which] = BigInteger.valueOf(start);
        int power = POWERS[random.nextInt(POWERS.length)];
        Object twice = made();
        for (int i = 0; i < power; i += 8) {
            call(twice, "setTo", ours[which]);
            call(ours[which], "addTimes", twice, 255, 0L);
            due[which] = due[which].shiftLeft(8);
        }
        add(which, random.nextInt(5) - 2);
    }

    private void add(int which, long more) {
        call(ours[which], "increaseBy", more);
        due[which] = due[which].add(BigInteger.valueOf(more));
    }

    private void step() {
        int a = random.nextInt(3);
        int b = random.nextInt(3);
        int kind = random.nextInt(8);
        String told = kind + " on " + due[a] + " and " + due[b];
        if (kind == 0) {
            set(a);
        } else if (kind == 1) {
            call(ours[a], "setTo", ours[b]);
            due[a] = due[b];
        } else if (kind == 2) {
            add(a, near(48));
        } else if (kind <= 4) {
            int times = random.nextBoolean() ? 2 * random.nextInt(2) - 1 : random.nextInt(2047) - 1023;
            long more = random.nextInt(2001) - 1000;
            call(ours[a], "addTimes", ours[b], times, more);
            due[a] = due[a].add(due[b].multiply(BigInteger.valueOf(times))).add(BigInteger.valueOf(more));
        } else if (kind == 5) {
            int by = 1 + random.nextInt(216);
            long rest = (long) call(ours[a], "divideDown", by);
            need(due[a].mod(BigInteger.valueOf(by)).equals(BigInteger.valueOf(rest)), told + ": rest " + rest);
            due[a] = down(due[a], by);
        } else if (kind == 6) {
            call(ours[a], "divideTowardZero", 10);
            due[a] = due[a].divide(BigInteger.TEN);
        } else if (a != b && due[a].signum() >= 0 && due[b].signum() > 0
            && due[a].compareTo(due[b].shiftLeft(10)) < 0) {
            BigInteger taken = BigInteger.valueOf((int) call(ours[a], "takeOut", ours[b]));
            need(taken.equals(due[a].divide(due[b])), told + ": taken out " + taken + " times");
            due[a] = due[a].mod(due[b]);
        }
        need(value(ours[a]).equals(due[a]), told + ": " + value(ours[a]) + ", due is " + due[a]);
        show(a, told);
        compare(a, b, random.nextInt(201) - 100);
    }

    private void show(int a, String told) {
        Object whole = ours[a];
        BigInteger value = due[a];
        int length = (int) field(whole, "length");
        long last = ((long[]) field(whole, "digits"))[length - 1];
        need(length == 1 || last != 0 && last != -1, told + ": a digit too many");
        need(call(whole, "isBelowZero").equals(value.signum() < 0), told + ": below 0");
        need(call(whole, "isAboveZero").equals(value.signum() > 0), told + ": above 0");
        need(call(whole, "isOdd").equals(value.testBit(0)), told + ": odd");
        need(call(whole, "nearestLong").equals(
            value.max(BigInteger.valueOf(Long.MIN_VALUE)).min(BigInteger.valueOf(Long.MAX_VALUE)).longValueExact()),
            told + ": the nearest long");
        need(call(whole, "nearestInt").equals(
            value.max(BigInteger.valueOf(Integer.MIN_VALUE)).min(BigInteger.valueOf(Integer.MAX_VALUE)).intValueExact()),
            told + ": the nearest int");
        int by = 1 + random.nextInt(16);
        double mean = new BigDecimal(value).divide(new BigDecimal(by), new MathContext(400)).doubleValue();
        call(ours[SPARE], "setTo", whole);
        need(call(ours[SPARE], "takeMean", by).equals(mean), told + ": its quotient by " + by);
    }

    private void compare(int a, int b, long more) {
        boolean isGreater = due[a].add(BigInteger.valueOf(more)).compareTo(due[b]) > 0;
        need(call(ours[a], "isGreaterWith", more, ours[b]).equals(isGreater), due[a] + " + " + more + " > " + due[b]);
    }

    /** Just below, at and just above the other one, whatever that is. */
    private void compareNear() {
        for (long more = -3; more <= 3; more++) {
            call(ours[0], "setTo", ours[1]);
            due[0] = due[1];
            add(0, more);
            compare(0, 1, -1);
            compare(1, 0, -1);
            compare(0, 1, 1);
            compare(1, 0, 99);
        }
    }

    public static void main(String[] args) {
        for (int i = 0; i < ROUNDS; i++) {
            WholeTest round = new WholeTest(i);
            for (int j = 0; j < STEPS; j++) {
                round.step();
            }
            round.compareNear();
        }
        System.out.println(steps + " answers, 0 wrong");
    }
}
