import java.lang.reflect.InvocationTargetException;
import java.lang.reflect.Method;
import java.util.Random;

/**
 * Runs of calls drawn from fixed seeds, on the class and on the model: each answer and each
 * exception must be the same. A run has 512 calls, as many as an object is used for; every
 * tenth one goes on, where answers are free but nothing undocumented may be thrown.
 */
public final class ModelTest {
    private static final String[] METHODS = {"area", "ways", "key", "record", "octet", "octet", "include", "sum", "exit",
        "begin", "release", "sort", "next", "value", "merge", "mergeAll", "compare", "failed", "count"};
    private static final int[] ODD = {Integer.MIN_VALUE, -2, -1, 0, 1, 2, 8, 9, 18, 31, 32, 255, 256, 1000, 1001,
        Integer.MAX_VALUE};
    private static final int[] BYTES = {0, 0, 1, 1, 2, 9, 10, 63, 64, 65, 127, 128, 200, 254, 255};

    private final Random random;
    private final int busy;
    private final int rows;
    private final int length;

    private ModelTest(int seed) {
        random = new Random(seed);
        busy = random.nextInt(4);
        rows = 1 + random.nextInt(40);
        length = 1 + random.nextInt(random.nextBoolean() ? 4 : 32);
    }

    public static void main(String[] args) throws ReflectiveOperationException {
        int runs = 6000;
        for (int seed = 1; seed <= runs; seed++) {
            int calls = seed % 10 == 0 ? 3000 : 512;
            if (!new ModelTest(seed).run(seed, calls)) {
                System.exit(1);
            }
        }
    }

    private boolean run(int seed, int calls) throws ReflectiveOperationException {
        SortMerge real = new SortMerge();
        Model model = new Model();
        for (int n = 1; n <= calls; n++) {
            int which = pick();
            int[] a = {0, 0, 0, random.nextInt(2)};
            fill(which, a);
            String want = answer(model, which, a);
            String got = answer(real, which, a);
            if (!got.equals(want)) {
                System.out.println("seed " + seed + ", call " + n + ": " + METHODS[which] + " (" + a[0] + ", " + a[1]
                        + ", " + a[2] + ", " + a[3] + ") answered " + got + ", due is " + want);
                return false;
            }
        }
        return true;
    }

    /** Runs differ in what they are busy with, so that long inputs and deep outputs come too. */
    private int pick() {
        int r = random.nextInt(100);
        if (r < 40) {
            int[][] often = {{4, 5, 5, 10}, {10, 10, 10, 12, 13}, {14, 14, 15, 12, 13}, {12, 13, 13, 9, 10}};
            return often[busy][random.nextInt(often[busy].length)];
        }
        return random.nextInt(METHODS.length);
    }

    private void fill(int which, int[] a) {
        if (random.nextInt(40) == 0) {
            for (int i = 0; i < 3; i++) {
                a[i] = ODD[random.nextInt(ODD.length)];
            }
            return;
        }
        int record = 1 + random.nextInt(rows);
        switch (which) {
            case 0 -> a[0] = 1 + random.nextInt(random.nextBoolean() ? 4 : 40);
            case 1 -> a[0] = 2 + random.nextInt(15);
            case 2 -> set(a, random.nextInt(length), 1 + random.nextInt(random.nextInt(4) == 0 ? 32 : 4), random.nextInt(4));
            case 4, 5 -> set(a, record, random.nextInt(length), BYTES[random.nextInt(BYTES.length)]);
            case 6 -> set(a, random.nextInt(length), random.nextInt(3) == 0 ? random.nextInt(5) : 4, BYTES[random.nextInt(BYTES.length)]);
            case 7 -> set(a, random.nextInt(length), random.nextInt(6) == 0 ? 1 + random.nextInt(8) : 0, 0);
            case 8 -> set(a, random.nextInt(2), random.nextInt(4), random.nextInt(3) == 0 ? random.nextInt(30) : 0);
            case 10 -> a[0] = record;
            case 13 -> a[0] = random.nextInt(length + 1);
            case 14 -> set(a, random.nextInt(8), record, 0);
            case 16 -> set(a, record, 1 + random.nextInt(rows), 0);
            case 18 -> a[0] = random.nextInt(11);
            default -> { }
        }
    }

    private static void set(int[] a, int x, int y, int z) {
        a[0] = x;
        a[1] = y;
        a[2] = z;
    }

    private static String answer(Object target, int which, int[] a) throws ReflectiveOperationException {
        for (Method method : target.getClass().getDeclaredMethods()) {
            if (method.getName().equals(METHODS[which])) {
                Class<?>[] types = method.getParameterTypes();
                Object[] given = new Object[types.length];
                for (int i = 0; i < types.length; i++) {
                    given[i] = types[i] == boolean.class ? (Object) (a[3] == 1) : (Object) a[i];
                }
                try {
                    return String.valueOf(method.invoke(target, given));
                } catch (InvocationTargetException e) {
                    return e.getCause().getClass().getName();
                }
            }
        }
        throw new NoSuchMethodException(METHODS[which]);
    }
}
