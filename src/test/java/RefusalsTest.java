import java.util.Random;
import java.util.function.Supplier;
import java.util.function.ToIntFunction;

/**
 * The terms: what is refused, and what throws, changes nothing but what is told. Two objects are made
 * alike, one of them is asked what is refused, and then both are asked for all that they know.
 */
public final class RefusalsTest {
    private static final Check check = new Check();
    private static final int MIN = Integer.MIN_VALUE;
    private static final int MAX = Integer.MAX_VALUE;

    public static void main(String[] args) {
        everyStage();
        thisStage();
        noRoom();
        outOfOrder();
        failingSort();
        firstOneOfThese();
        leftOut();
        check.end();
    }

    /** Three records, all settings told, a sort and a failure behind it, two inputs; then to a stage. */
    private static SortMerge made(int stage) {
        SortMerge x = new SortMerge();
        x.key(0, 1, 0, true);
        x.key(1, 2, 2, false);
        Check.make(x, 5, 0, 1, 7);
        Check.make(x, 5, 255, 1, 8);
        Check.make(x, 6, 0, 1, 9);
        x.area(2);
        x.ways(3);
        x.sum(3, 1);
        x.include(0, 1, 9);
        x.exit(0, 0, 2);
        x.begin();
        x.release(3);
        x.release(1);
        answer(x, y -> y.sort(true));
        x.exit(0, 2, 0);
        x.exit(1, 1, 9);
        x.release(2);
        x.sort(true);
        Check.numbers(x);
        Check.merge(x, 2, 3, 2);
        Check.merge(x, 6, 1);
        if (stage > 0) {
            Check.release(x, 1, 2, 3, 1, 2);
        }
        if (stage > 1) {
            x.exit(1, 0, 9);
            x.sort(false);
            x.next();
        }
        return x;
    }

    private static String answer(SortMerge x, ToIntFunction<SortMerge> call) {
        try {
            return String.valueOf(call.applyAsInt(x));
        } catch (RuntimeException e) {
            return e.getClass().getSimpleName();
        }
    }

    /** All that an object knows; it is used up by that. */
    private static String known(SortMerge x, boolean withFailed) {
        StringBuilder text = new StringBuilder(Check.counts(x));
        text.append("; ").append(withFailed ? x.failed() : 0).append("; hand ").append(Check.bytes(x));
        text.append("; input ").append(answer(x, y -> y.sort(true))).append(" ").append(Check.all(x));
        for (int a = 1; a <= Math.min(x.count(1), 3); a++) {
            for (int b = 1; b <= Math.min(x.count(1), 3); b++) {
                text.append(x.compare(a, b)).append(" ");
            }
        }
        text.append("; merge ").append(x.mergeAll()).append(" ").append(Check.all(x)).append(x.count(9));
        for (int turn = 0; turn < 2; turn++) {
            Check.release(x, 3, 1, 2, 3, 2, 1, 1, 1);
            text.append("; sort ").append(answer(x, y -> y.sort(false)));
            text.append(" ").append(Check.counts(x)).append(" ").append(Check.all(x));
            x.exit(0, 0, 0);
            x.exit(1, 0, 0);
            x.include(0, 4, 0);
        }
        text.append("; told ").append(x.ways(2)).append(" ").append(x.sum(31, 1)).append(" ").append(x.record());
        return text.toString();
    }

    private static void refused(String call, Supplier<SortMerge> maker, String due, ToIntFunction<SortMerge> made) {
        SortMerge x = maker.get();
        check.due(call, answer(x, made), due);
        check.due(call + ": nothing changes", known(x, true), known(maker.get(), true));
    }

    private static void everyStage() {
        for (int s = 0; s <= 2; s++) {
            int stage = s;
            Supplier<SortMerge> at = () -> made(stage);
            for (int n : new int[] {0, 1001, MAX}) {
                refused("area(" + n + ")", at, "-4", x -> x.area(n));
            }
            for (int n : new int[] {-1, -8, MIN}) {
                refused("area(" + n + ")", at, "NegativeArraySizeException", x -> x.area(n));
            }
            for (int n : new int[] {1, 17, 0, -1, MIN, MAX}) {
                refused("ways(" + n + ")", at, "-4", x -> x.ways(n));
            }
            for (int[] k : new int[][] {{0, 1, 4}, {0, 1, -1}, {-1, 1, 0}, {32, 1, 0}, {0, 0, 1}, {0, 9, 2}, {31, 2, 0}}) {
                refused("key", at, "-4", x -> x.key(k[0], k[1], k[2], true));
            }
            for (int n : new int[] {0, 4, -1, MIN, MAX}) {
                refused("octet(" + n + ", 0, 1)", at, "-2", x -> x.octet(n, 0, 1));
                refused("release(" + n + ")", at, "-2", x -> x.release(n));
                refused("merge(2, " + n + ")", at, "-2", x -> x.merge(2, n));
                refused("compare(1, " + n + ")", at, "IllegalArgumentException", x -> x.compare(1, n));
                refused("compare(" + n + ", 1)", at, "IllegalArgumentException", x -> x.compare(n, 1));
            }
            for (int n : new int[] {-1, 32, MIN, MAX}) {
                refused("octet(1, " + n + ", 1)", at, "-4", x -> x.octet(1, n, 1));
                refused("include(" + n + ", 0, 5)", at, "-4", x -> x.include(n, 0, 5));
                refused("include(0, " + n + ", 5)", at, "-4", x -> x.include(0, n, 5));
                refused("sum(" + n + ", 1)", at, "-4", x -> x.sum(n, 1));
                refused("sum(0, " + n + ")", at, "-4", x -> x.sum(0, n));
                refused("exit(" + n + ", 3, 1)", at, "-4", x -> x.exit(n, 3, 1));
                refused("exit(0, " + n + ", 1)", at, "-4", x -> x.exit(0, n, 1));
                refused("merge(" + n + ", 1)", at, "-4", x -> x.merge(n, 1));
                refused("count(" + n + ")", at, "-1", x -> x.count(n));
                refused("value(" + n + ")", at, "-1", x -> x.value(n));
            }
            for (int n : new int[] {-1, 256, MIN, MAX}) {
                refused("include(0, 0, " + n + ")", at, "-4", x -> x.include(0, 0, n));
                refused("include(0, 4, " + n + ")", at, "-4", x -> x.include(0, 4, n));
            }
            for (int n : new int[] {-1, 1001, MIN, MAX}) {
                refused("exit(0, 3, " + n + ")", at, "-4", x -> x.exit(0, 3, n));
                refused("exit(1, 3, " + n + ")", at, "-4", x -> x.exit(1, 3, n));
            }
        }
    }

    private static void thisStage() {
        refused("begin() by input", () -> made(1), "-5", SortMerge::begin);
        refused("mergeAll() by input", () -> made(1), "-5", SortMerge::mergeAll);
        for (int stage : new int[] {1, 2}) {
            refused("key by " + stage, () -> made(stage), "-5", x -> x.key(3, 1, 0, false));
        }
        for (int stage : new int[] {0, 2}) {
            refused("release(1) by " + stage, () -> made(stage), "-5", x -> x.release(1));
            refused("sort(true) by " + stage, () -> made(stage), "-5", x -> x.sort(true));
            refused("sort(false) by " + stage, () -> made(stage), "-5", x -> x.sort(false));
        }
        for (int stage : new int[] {0, 1}) {
            refused("next() by " + stage, () -> made(stage), "-5", SortMerge::next);
        }
    }

    private static SortMerge full(int stage, ToIntFunction<SortMerge> call) {
        SortMerge x = made(stage);
        for (int n = 0; n < 1000 && call.applyAsInt(x) != SortMerge.NONE; n++) {
            continue;
        }
        return x;
    }

    /** The last call that fills an object is a refused one already, so that a second one must be alike. */
    private static void noRoom() {
        refused("key", () -> full(0, x -> x.key(3, 1, 0, true)), "-1", x -> x.key(2, 1, 1, false));
        for (int s = 0; s <= 2; s++) {
            int stage = s;
            refused("sum", () -> full(stage, x -> x.sum(3, 1)), "-1", x -> x.sum(2, 1));
            refused("merge", () -> full(stage, x -> x.merge(6, 1)), "-1", x -> x.merge(6, 2));
            refused("record", () -> full(stage, SortMerge::record), "-1", SortMerge::record);
        }
        // Behind 512 calls answers are free; the class keeps to them all the same.
        refused("release", () -> full(1, x -> x.release(1)), "-1", x -> x.release(2));
    }

    private static SortMerge unordered(int stage) {
        SortMerge x = made(stage);
        x.merge(5, 1);
        x.merge(5, 3);
        return x;
    }

    private static void outOfOrder() {
        refused("mergeAll() when idle", () -> unordered(0), "-15", SortMerge::mergeAll);
        refused("mergeAll() by output", () -> unordered(2), "-15", SortMerge::mergeAll);
        refused("mergeAll() by input", () -> unordered(1), "-5", SortMerge::mergeAll);
    }

    private static SortMerge failing(int kind, int does, int failsAt) {
        SortMerge x = made(1);
        x.exit(1, 0, 0);
        x.exit(kind, does, failsAt);
        return x;
    }

    /** failed() is told; all the rest stays. */
    private static void failingSort() {
        int[][] dues = {{0, 1, 1}, {0, 3, 3}, {0, 5, 2}, {1, 1, 3}, {1, 2, 2}, {1, 3, 1}};
        for (int[] d : dues) {
            for (int does = 0; does <= 3; does += does == 0 ? 2 : 1) {
                int what = does;
                SortMerge x = failing(d[0], what, d[1]);
                String call = "exit(" + d[0] + ", " + what + ", " + d[1] + "), sort(true)";
                check.due(call, answer(x, y -> y.sort(true)), "IllegalStateException");
                check.due(call + ": failed()", x.failed(), d[2]);
                SortMerge other = failing(d[0], what, d[1]);
                check.due(call + ": nothing else changes", known(x, false), known(other, false));
                SortMerge mended = failing(d[0], what, d[1]);
                answer(mended, y -> y.sort(true));
                mended.exit(d[0], 0, 0);
                SortMerge never = failing(d[0], 0, 0);
                check.due(call + ": and then without", known(mended, false), known(never, false));
            }
        }
    }

    private static void firstOneOfThese() {
        SortMerge x = full(0, y -> y.key(0, 1, 0, false));
        check.due("-4 ahead of no room: key", x.key(0, 1, 4, false), -4);
        x.begin();
        check.due("-4 ahead of -5 and no room: key", x.key(0, 0, 0, false), -4);
        check.due("-5 ahead of no room: key", x.key(0, 1, 0, false), -5);
        SortMerge y = full(0, z -> z.sum(0, 1));
        check.due("-4 ahead of no room: sum", y.sum(0, 9), -4);
        SortMerge z = full(0, w -> w.merge(6, 1));
        check.due("-2 ahead of no room: merge", z.merge(6, 4), -2);
        check.due("-2 ahead of -4: merge", z.merge(8, 4), -2);
        check.due("-4: merge", z.merge(8, 1), -4);
        check.due("-2 ahead of -4: octet", z.octet(0, 32, 0), -2);
        check.due("-2 ahead of -5: release", z.release(4), -2);
        check.due("-5: release", z.release(3), -5);
        SortMerge v = full(1, w -> w.release(1));
        check.due("-2 ahead of no room: release", v.release(0), -2);
    }

    /**
     * Drawn from fixed seeds: one object gets all calls, another one only those that were not refused.
     * Their answers must be the same all along.
     */
    private static void leftOut() {
        for (int seed = 1; seed <= 1500; seed++) {
            Random random = new Random(seed);
            SortMerge all = new SortMerge();
            SortMerge some = new SortMerge();
            for (int n = 1; n <= 512; n++) {
                int which = random.nextInt(22);
                int a = drawn(random);
                int b = drawn(random);
                int c = drawn(random);
                String got = answer(all, x -> call(x, which, a, b, c));
                boolean left = got.startsWith("-") && which != 17 || got.endsWith("Exception");
                if (!left) {
                    String want = answer(some, x -> call(x, which, a, b, c));
                    check.due("seed " + seed + ", call " + n + " of kind " + which, got, want);
                    if (!got.equals(want)) {
                        return;
                    }
                }
            }
            check.due("seed " + seed, known(all, false), known(some, false));
        }
    }

    private static int drawn(Random random) {
        return random.nextInt(10) == 0 ? random.nextInt(50) - 10 : random.nextInt(5);
    }

    /** failed() is not among them: a sort that throws tells it something. */
    private static int call(SortMerge x, int which, int a, int b, int c) {
        switch (which) {
            case 0: return x.area(a);
            case 1: return x.ways(a);
            case 2: return x.key(a, b, c, a > b);
            case 3: return x.include(a, b, c);
            case 4: return x.sum(a, b);
            case 5: return x.exit(a, b, c == 1 ? 0 : c);
            case 6: return x.begin();
            case 7: return x.sort(a > 1);
            case 8: return x.mergeAll();
            case 9: return x.merge(a, b);
            case 10: return x.merge(b, a);
            case 11: return x.compare(a, b);
            case 12: return x.count(a);
            case 13: return x.record();
            case 14, 15: return x.octet(a, b, c);
            case 16: return x.next();
            case 17: return x.value(a);
            default: return x.release(a);
        }
    }
}
