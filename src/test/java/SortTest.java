/** Promise 12, and the runs and passes of promise 19. */
public final class SortTest {
    private static final Check check = new Check();

    public static void main(String[] args) {
        orders();
        stable();
        runsAndPasses();
        condition();
        again();
        inOtherStages();
        ofNone();
        allDropped();
        runsOfCopies();
        manyRows();
        check.end();
    }

    private static void orders() {
        SortMerge x = new SortMerge();
        x.key(0, 1, 0, false);
        x.key(1, 1, 2, true);
        x.area(2);
        Check.make(x, 7, 1);
        Check.make(x, 3, 255);
        Check.make(x, 3, 1);
        Check.make(x, 200);
        Check.make(x);
        Check.release(x, 1, 2, 3, 4, 5);
        check.due("sort(false)", x.sort(false), 5);
        check.due("numbers", Check.numbers(x), "5 3 2 1 4");
    }

    private static void stable() {
        SortMerge x = new SortMerge();
        x.key(0, 1, 0, true);
        Check.make(x, 1);
        Check.make(x, 1);
        Check.make(x, 1);
        Check.make(x, 2);
        for (int area = 1; area <= 8; area++) {
            x.area(area);
            Check.release(x, 3, 1, 4, 2, 3, 1, 2);
            check.due("sort(true)", x.sort(true), 7);
            check.due("stable by area " + area, Check.numbers(x), "4 3 1 2 3 1 2");
            Check.release(x, 3, 1, 4, 2, 3, 1, 2);
            check.due("sort(false)", x.sort(false), 7);
            check.due("by numbers by area " + area, Check.numbers(x), "4 1 1 2 2 3 3");
        }
    }

    private static void runsAndPasses() {
        int[][] dues = {
            // released, area, ways, runs, passes
            {0, 1, 2, 0, 0}, {1, 1, 2, 1, 0}, {2, 1, 2, 2, 1}, {2, 2, 2, 1, 0}, {3, 2, 2, 2, 1},
            {9, 1, 3, 9, 2}, {10, 1, 3, 10, 3}, {16, 1, 16, 16, 1}, {17, 1, 16, 17, 2},
            {8, 8, 2, 1, 0}, {9, 8, 2, 2, 1}, {40, 7, 3, 6, 2}, {40, 1000, 2, 1, 0}};
        for (int[] d : dues) {
            SortMerge x = new SortMerge();
            x.key(0, 1, 1, false);
            x.area(d[1]);
            x.ways(d[2]);
            StringBuilder want = new StringBuilder();
            for (int i = 0; i < d[0]; i++) {
                Check.make(x, 100 - i);
                want.insert(0, (i + 1) + (i == 0 ? "" : " "));
            }
            x.begin();
            for (int i = 1; i <= d[0]; i++) {
                x.release(i);
            }
            check.due("sort(false)", x.sort(false), d[0]);
            check.due("runs of " + d[0] + " by " + d[1], x.count(4), d[3]);
            check.due("passes of " + d[0] + " by " + d[1] + ", " + d[2] + " ways", x.count(5), d[4]);
            check.due("numbers", Check.numbers(x), want.toString());
        }
    }

    /** A sort that fails can be told again and again; it takes no room from the later ones. */
    private static void again() {
        SortMerge x = new SortMerge();
        x.key(0, 1, 0, false);
        Check.make(x, 2);
        Check.make(x, 1);
        x.begin();
        for (int i = 0; i < 100; i++) {
            x.release(1);
            x.release(2);
        }
        x.exit(1, 2, 200);
        for (int i = 0; i < 100; i++) {
            check.dueThrow("sort(false)", IllegalStateException.class, () -> x.sort(false));
        }
        x.exit(1, 0, 0);
        check.due("sort(false)", x.sort(false), 200);
        check.due("count(4)", x.count(4), 25);
        check.due("next()", x.next(), 2);
        check.due("value(0)", x.value(0), 1);
    }

    /** Promise 7: what the condition lets through. */
    private static void condition() {
        SortMerge x = new SortMerge();
        Check.make(x, 9, 0);
        Check.make(x, 9, 100);
        Check.make(x, 9, 200);
        Check.make(x, 9);
        String[] dues = {"2", "1 3 4", "1 4", "3", "1 2 3 4"};
        for (int op = 0; op < dues.length; op++) {
            check.due("include", x.include(1, op, 100), 1);
            Check.release(x, 1, 2, 3, 4);
            x.sort(true);
            check.due("op " + op, Check.numbers(x), dues[op]);
            check.due("count(6)", x.count(6), 4 - (dues[op].length() + 1) / 2);
        }
        x.include(1, 0, 0);
        Check.release(x, 1, 2, 3, 4);
        x.include(0, 5, 0);
        check.due("behind the end is 0", x.sort(true), 2);
        check.due("runs of what the condition lets through", x.count(4), 1);
    }

    private static void inOtherStages() {
        for (boolean stable : new boolean[] {true, false}) {
            SortMerge x = new SortMerge();
            x.exit(0, 0, 1);
            x.exit(1, 0, 1);
            check.due("sort when idle", x.sort(stable), -5);
            x.begin();
            check.due("sort by input", x.sort(stable), 0);
            check.due("sort by output", x.sort(stable), -5);
            check.due("count(2)", x.count(2), 2);
            x.next();
            check.due("sort when idle again", x.sort(stable), -5);
            check.due("count(2)", x.count(2), 0);
            x.mergeAll();
            check.due("sort behind mergeAll()", x.sort(stable), -5);
        }
    }

    /** No one comes to an exit, so that none fails. */
    private static void ofNone() {
        SortMerge x = new SortMerge();
        x.sum(0, 1);
        x.include(0, 0, 1);
        x.exit(0, 1, 1);
        x.exit(1, 1, 1);
        x.begin();
        check.due("sort(true) of none", x.sort(true), 0);
        check.due("counts", Check.counts(x), "0 0 2 0 0 0 0 0 0 0");
        check.due("failed()", x.failed(), 0);
        check.due("next()", x.next(), 0);
        x.exit(0, 0, 0);
        x.exit(1, 0, 0);
        Check.make(x, 1);
        Check.release(x, 1, 1);
        check.due("sort(true)", x.sort(true), 1);
        x.begin();
        check.due("nothing is left of what was released earlier", x.sort(true), 0);
    }

    private static void allDropped() {
        SortMerge x = new SortMerge();
        x.record();
        x.include(0, 3, 0);
        x.exit(0, 0, 1);
        x.exit(1, 0, 1);
        Check.release(x, 1, 1, 1);
        check.due("all dropped by the condition", x.sort(true), 0);
        check.due("counts", Check.counts(x), "0 1 2 0 0 0 3 0 0 0");
        check.due("next()", x.next(), 0);
        x.include(0, 4, 0);
        x.exit(0, 3, 0);
        Check.release(x, 1, 1, 1, 1);
        check.due("all dropped by the input exit", x.sort(true), 0);
        check.due("counts", Check.counts(x), "0 1 2 0 0 0 4 0 0 0");
        x.exit(0, 0, 0);
        x.exit(1, 3, 0);
        Check.release(x, 1, 1);
        check.due("all dropped by the output exit", x.sort(true), 0);
        check.due("counts", Check.counts(x), "0 1 2 0 1 0 0 0 2 0");
        check.due("next()", x.next(), 0);
    }

    /** Runs are made of what the condition and the input exit left; sums and the output exit come later. */
    private static void runsOfCopies() {
        SortMerge x = new SortMerge();
        x.key(0, 1, 0, false);
        Check.make(x, 1, 1);
        Check.make(x, 2, 1);
        x.area(2);
        x.include(0, 0, 1);
        x.exit(0, 1, 0);
        Check.release(x, 1, 2, 1, 2, 2, 1, 1, 2, 1, 2, 2, 2);
        check.due("sort(true)", x.sort(true), 3);
        check.due("5 let through, 3 left: counts", Check.counts(x), "1 2 2 0 2 1 9 0 0 0");
        x.include(0, 4, 0);
        x.exit(0, 0, 0);
        x.sum(1, 1);
        x.exit(1, 1, 0);
        Check.release(x, 1, 1, 2, 2, 1, 2);
        check.due("sort(true)", x.sort(true), 1);
        check.due("6 in 3 runs, 2 sums, 1 left: counts", Check.counts(x), "1 2 2 0 3 2 0 4 1 0");
    }

    /** As many as 512 calls can release, each in a run of its own. */
    private static void manyRows() {
        SortMerge x = new SortMerge();
        x.key(0, 1, 1, true);
        x.area(1);
        Check.make(x, 1);
        Check.make(x, 2);
        x.begin();
        for (int i = 0; i < 240; i++) {
            x.release(1);
            x.release(2);
        }
        check.due("sort(true)", x.sort(true), 480);
        check.due("runs", x.count(4), 480);
        check.due("passes", x.count(5), 9);
        check.due("next()", x.next(), 2);
        check.due("value(0)", x.value(0), 2);
    }
}
