/** Promises 2, 3, 7, 8 and 9: what is told, what is refused, and from when on it counts. */
public final class SettingsTest {
    private static final Check check = new Check();
    private static final int MIN = Integer.MIN_VALUE;
    private static final int MAX = Integer.MAX_VALUE;

    public static void main(String[] args) {
        areaAnswers();
        areaFromNowOn();
        waysAnswers();
        waysFromNowOn();
        includeRefuses();
        includeAtTheEdges();
        includeReplaces();
        sumRefuses();
        sumRoom();
        exitRefuses();
        exitReplaces();
        inAllStages();
        check.end();
    }

    private static void areaAnswers() {
        SortMerge x = new SortMerge();
        check.due("area(1)", x.area(1), 1);
        check.due("area(1000)", x.area(1000), 1);
        check.due("area(0)", x.area(0), -4);
        check.due("area(1001)", x.area(1001), -4);
        check.due("area(max)", x.area(MAX), -4);
        check.dueThrow("area(-1)", NegativeArraySizeException.class, () -> x.area(-1));
        check.dueThrow("area(min)", NegativeArraySizeException.class, () -> x.area(MIN));
    }

    private static int runs(SortMerge x, int released) {
        x.begin();
        for (int i = 0; i < released; i++) {
            x.release(1);
        }
        x.sort(true);
        return x.count(4);
    }

    private static void areaFromNowOn() {
        SortMerge x = new SortMerge();
        x.record();
        x.area(1);
        check.due("the least area: runs of 5", runs(x, 5), 5);
        x.area(1000);
        check.due("the greatest area: runs of 400", runs(x, 400), 1);
        x.area(3);
        check.due("3 rows: runs of 7", runs(x, 7), 3);
        x.area(0);
        x.area(1001);
        check.dueThrow("area(-7)", NegativeArraySizeException.class, () -> x.area(-7));
        check.due("what is refused leaves 3 rows: runs of 7", runs(x, 7), 3);
        check.due("area(7) by output", x.area(7), 1);
        check.due("the latest sort had 3 rows", x.count(4), 3);
        Check.release(x, 1, 1, 1, 1, 1, 1, 1);
        check.due("area(6) behind what was released", x.area(6), 1);
        x.sort(true);
        check.due("6 rows from now on: runs of 7", x.count(4), 2);
    }

    private static void waysAnswers() {
        SortMerge x = new SortMerge();
        check.due("ways(16)", x.ways(16), 2);
        check.due("ways(2)", x.ways(2), 16);
        check.due("ways(3)", x.ways(3), 2);
        for (int n : new int[] {1, 17, 0, -1, -2, MIN, MAX}) {
            check.due("ways(" + n + ")", x.ways(n), -4);
        }
        check.due("ways(4): what is refused leaves 3", x.ways(4), 3);
        check.due("ways(4) again", x.ways(4), 4);
    }

    private static void waysFromNowOn() {
        SortMerge x = new SortMerge();
        x.record();
        x.area(1);
        // ways, released, passes
        int[][] dues = {{2, 2, 1}, {2, 3, 2}, {2, 4, 2}, {2, 5, 3}, {3, 9, 2}, {3, 10, 3}, {15, 16, 2},
            {16, 16, 1}, {16, 17, 2}, {16, 50, 2}};
        for (int[] d : dues) {
            x.ways(d[0]);
            runs(x, d[1]);
            check.due(d[0] + " ways: passes of " + d[1], x.count(5), d[2]);
        }
        x.ways(1);
        x.ways(17);
        runs(x, 16);
        check.due("what is refused leaves 16 ways", x.count(5), 1);
        x.ways(2);
        check.due("the latest sort had 16 ways", x.count(5), 1);
        Check.release(x, 1, 1, 1);
        x.ways(3);
        x.sort(false);
        check.due("3 ways from now on", x.count(5), 1);
    }

    private static void includeRefuses() {
        for (int op = 0; op <= 4; op++) {
            SortMerge x = new SortMerge();
            int[][] wrong = {{-1, op, 0}, {32, op, 0}, {MIN, op, 0}, {MAX, op, 0},
                {0, op, -1}, {0, op, 256}, {0, op, MIN}, {0, op, MAX}, {-1, op, 256}};
            for (int[] w : wrong) {
                check.due("include(" + w[0] + ", " + op + ", " + w[2] + ")", x.include(w[0], op, w[2]), -4);
            }
            for (int[] right : new int[][] {{0, 0}, {31, 0}, {0, 255}, {31, 255}}) {
                check.due("include(" + right[0] + ", " + op + ", " + right[1] + ")",
                        x.include(right[0], op, right[1]), 1);
            }
        }
        SortMerge x = new SortMerge();
        for (int op : new int[] {-1, 5, MIN, MAX}) {
            check.due("include(0, " + op + ", 0)", x.include(0, op, 0), -4);
        }
        x.record();
        Check.release(x, 1);
        check.due("what is refused leaves no condition", x.sort(true), 1);
    }

    /** Which of five records get through: one without bytes, and those of 0, 1, 254 and 255. */
    private static String through(SortMerge x, int i, int op, int b) {
        check.due("include(" + i + ", " + op + ", " + b + ")", x.include(i, op, b), 1);
        Check.release(x, 1, 2, 3, 4, 5);
        int out = x.sort(true);
        check.due("include(" + i + ", " + op + ", " + b + "): dropped", x.count(6), 5 - out);
        return Check.numbers(x);
    }

    private static void includeAtTheEdges() {
        String all = "1 2 3 4 5";
        // for b = 0, 1, 254, 255
        String[][] dues = {
            {"1 2", "3", "4", "5"},
            {"3 4 5", "1 2 4 5", "1 2 3 5", "1 2 3 4"},
            {"", "1 2", "1 2 3", "1 2 3 4"},
            {"3 4 5", "4 5", "5", ""},
            {all, all, all, all}};
        int[] bs = {0, 1, 254, 255};
        for (int place : new int[] {0, 31}) {
            SortMerge x = new SortMerge();
            x.record();
            for (int b : bs) {
                x.octet(x.record(), place, b);
            }
            for (int op = 0; op < dues.length; op++) {
                for (int n = 0; n < bs.length; n++) {
                    check.due("byte " + place + ", op " + op + ", " + bs[n], through(x, place, op, bs[n]), dues[op][n]);
                }
            }
        }
    }

    private static void includeReplaces() {
        SortMerge x = new SortMerge();
        for (int b = 1; b <= 5; b++) {
            Check.make(x, b, 9);
        }
        check.due("is 2", through(x, 0, 0, 2), "2");
        check.due("another one takes its place", through(x, 0, 3, 3), "4 5");
        check.due("another byte", through(x, 1, 0, 9), "1 2 3 4 5");
        x.include(0, 2, 2);
        x.include(32, 4, 0);
        x.include(0, 4, 256);
        Check.release(x, 1, 2, 3, 4, 5);
        check.due("what is refused leaves: is less than 2", x.sort(true), 1);
        check.due("none", through(x, 0, 4, 2), "1 2 3 4 5");
    }

    private static void sumRefuses() {
        // A call that is not outside would answer 1 here, or NONE behind four of them.
        for (int from = -2; from <= 34; from++) {
            SortMerge x = new SortMerge();
            for (int n = 0; n < 4; n++) {
                x.sum(0, 1);
            }
            for (int size = -2; size <= 34; size++) {
                boolean right = from >= 0 && from <= 31 && size >= 1 && size <= 8 && from + size <= 32;
                check.due("sum(" + from + ", " + size + ")", x.sum(from, size), right ? SortMerge.NONE : -4);
            }
            for (int size : new int[] {MIN, MAX}) {
                check.due("sum(" + from + ", " + size + ")", x.sum(from, size), -4);
                check.due("sum(" + size + ", 1)", x.sum(size, 1), -4);
                check.due("sum(" + size + ", same)", x.sum(size, size), -4);
            }
        }
    }

    private static void sumRoom() {
        SortMerge x = new SortMerge();
        check.due("sum(0, 9)", x.sum(0, 9), -4);
        check.due("sum(24, 8)", x.sum(24, 8), 1);
        check.due("sum(31, 1)", x.sum(31, 1), 2);
        check.due("sum(31, 2)", x.sum(31, 2), -4);
        check.due("sum(0, 8)", x.sum(0, 8), 3);
        check.due("sum(0, 1)", x.sum(0, 1), 4);
        check.due("a fifth", x.sum(0, 1), SortMerge.NONE);
        check.due("outside comes ahead of no room", x.sum(0, 9), -4);
    }

    private static void exitRefuses() {
        SortMerge x = new SortMerge();
        int[][] wrong = {{-1, 0, 0}, {2, 0, 0}, {MIN, 0, 0}, {MAX, 0, 0},
            {0, -1, 0}, {0, 4, 0}, {1, -1, 0}, {1, 4, 0}, {0, MIN, 0}, {1, MAX, 0},
            {0, 0, -1}, {0, 0, 1001}, {1, 0, -1}, {1, 0, 1001}, {0, 0, MIN}, {1, 0, MAX}};
        for (int[] w : wrong) {
            check.due("exit(" + w[0] + ", " + w[1] + ", " + w[2] + ")", x.exit(w[0], w[1], w[2]), -4);
        }
        x.record();
        Check.release(x, 1, 1);
        check.due("what is refused leaves no exits", x.sort(true), 2);
        for (int kind = 0; kind <= 1; kind++) {
            for (int does = 0; does <= 3; does++) {
                check.due("exit(" + kind + ", " + does + ", 0)", x.exit(kind, does, 0), 1);
                check.due("exit(" + kind + ", " + does + ", 1000)", x.exit(kind, does, 1000), 1);
            }
        }
    }

    private static void exitReplaces() {
        for (int kind = 0; kind <= 1; kind++) {
            SortMerge x = new SortMerge();
            Check.make(x, 1);
            x.exit(kind, 1, 1);
            x.exit(kind, 2, 0);
            x.exit(kind, 4, 1);
            x.exit(kind, 1, 1001);
            Check.release(x, 1, 1);
            check.due("the later one counts, what is refused doesn't", x.sort(true), 2);
            check.due("it adds 1", Check.all(x), "1: 2; 1: 2; ");
        }
    }

    /** These promises name no stage, so that none refuses. */
    private static void inAllStages() {
        SortMerge x = new SortMerge();
        for (int stage = 0; stage <= 2; stage++) {
            check.due("count(2)", x.count(2), stage);
            check.due("area(8)", x.area(8), 1);
            check.due("ways(2)", x.ways(2), 2);
            check.due("include(0, 4, 0)", x.include(0, 4, 0), 1);
            check.due("sum(0, 1)", x.sum(0, 1), stage + 1);
            check.due("exit(0, 0, 0)", x.exit(0, 0, 0), 1);
            check.due("exit(1, 0, 0)", x.exit(1, 0, 0), 1);
            check.due("to the next stage", stage == 0 ? x.begin() : x.sort(true), stage == 0 ? 1 : stage == 1 ? 0 : -5);
        }
    }
}
