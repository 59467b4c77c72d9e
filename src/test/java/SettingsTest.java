/** Promises 2 and 3, and what promises 7, 8 and 9 refuse. */
public final class SettingsTest {
    private static final Check check = new Check();

    public static void main(String[] args) {
        area();
        ways();
        includeRefuses();
        sumRefuses();
        exitRefuses();
        check.end();
    }

    private static void area() {
        SortMerge x = new SortMerge();
        check.due("area(1)", x.area(1), 1);
        check.due("area(1000)", x.area(1000), 1);
        check.due("area(0)", x.area(0), -4);
        check.due("area(1001)", x.area(1001), -4);
        check.due("area(max)", x.area(Integer.MAX_VALUE), -4);
        check.dueThrow("area(-1)", NegativeArraySizeException.class, () -> x.area(-1));
        check.dueThrow("area(min)", NegativeArraySizeException.class, () -> x.area(Integer.MIN_VALUE));
        x.area(3);
        x.area(0);
        check.dueThrow("area(-7)", NegativeArraySizeException.class, () -> x.area(-7));
        x.record();
        Check.release(x, 1, 1, 1, 1, 1, 1, 1);
        x.sort(true);
        check.due("what is refused leaves 3 rows: runs of 7", x.count(4), 3);
        Check.release(x, 1, 1, 1, 1, 1, 1, 1);
        x.area(7);
        x.sort(true);
        check.due("7 rows from now on: runs of 7", x.count(4), 1);
        check.due("7 rows from now on: passes", x.count(5), 0);
    }

    private static void ways() {
        SortMerge x = new SortMerge();
        check.due("ways(16)", x.ways(16), 2);
        check.due("ways(2)", x.ways(2), 16);
        check.due("ways(3)", x.ways(3), 2);
        check.due("ways(1)", x.ways(1), -4);
        check.due("ways(17)", x.ways(17), -4);
        check.due("ways(min)", x.ways(Integer.MIN_VALUE), -4);
        check.due("ways(max)", x.ways(Integer.MAX_VALUE), -4);
        check.due("ways(4)", x.ways(4), 3);
    }

    private static void includeRefuses() {
        SortMerge x = new SortMerge();
        check.due("include(0, 0, 0)", x.include(0, 0, 0), 1);
        check.due("include(31, 4, 255)", x.include(31, 4, 255), 1);
        int[][] wrong = {{-1, 0, 0}, {32, 0, 0}, {0, -1, 0}, {0, 5, 0}, {0, 0, -1}, {0, 0, 256},
            {32, 4, 0}, {-1, 4, 0}, {0, 4, 256}, {0, 4, -1}, {Integer.MIN_VALUE, 1, 1}};
        for (int[] w : wrong) {
            check.due("include of a wrong one", x.include(w[0], w[1], w[2]), -4);
        }
        x.record();
        Check.release(x, 1);
        check.due("what is refused leaves no condition", x.sort(true), 1);
    }

    private static void sumRefuses() {
        SortMerge x = new SortMerge();
        int[][] wrong = {{-1, 1}, {32, 1}, {0, 0}, {0, -1}, {0, 9}, {31, 2}, {25, 8},
            {Integer.MAX_VALUE, 1}, {Integer.MIN_VALUE, 8}, {1, Integer.MAX_VALUE}};
        for (int[] w : wrong) {
            check.due("sum of a wrong one", x.sum(w[0], w[1]), -4);
        }
        check.due("sum(24, 8)", x.sum(24, 8), 1);
        check.due("sum(31, 1)", x.sum(31, 1), 2);
        check.due("sum(0, 8)", x.sum(0, 8), 3);
        check.due("sum(0, 1)", x.sum(0, 1), 4);
        check.due("a fifth", x.sum(0, 1), SortMerge.NONE);
        check.due("outside comes ahead of no room", x.sum(0, 9), -4);
    }

    private static void exitRefuses() {
        SortMerge x = new SortMerge();
        int[][] wrong = {{-1, 0, 0}, {2, 0, 0}, {0, -1, 0}, {0, 4, 0}, {1, 0, -1}, {1, 0, 1001}};
        for (int[] w : wrong) {
            check.due("exit of a wrong one", x.exit(w[0], w[1], w[2]), -4);
        }
        check.due("exit(0, 3, 1000)", x.exit(0, 3, 1000), 1);
        check.due("exit(1, 0, 0)", x.exit(1, 0, 0), 1);
    }
}
