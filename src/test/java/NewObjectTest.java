/** Promise 1: what a new object has, phrase by phrase. */
public final class NewObjectTest {
    private static final Check check = new Check();

    public static void main(String[] args) {
        check.due("NONE", SortMerge.NONE, -1);
        counts();
        noKeys();
        noRecords();
        eightRowsTwoWays();
        noCondition();
        noSums();
        noExits();
        idle();
        check.end();
    }

    private static void counts() {
        SortMerge x = new SortMerge();
        check.due("counts", Check.counts(x), "0 0 0 0 0 0 0 0 0 0");
        check.due("failed()", x.failed(), 0);
        check.due("mergeAll(): no inputs", x.mergeAll(), 0);
    }

    private static void noKeys() {
        SortMerge x = new SortMerge();
        Check.make(x, 2);
        Check.make(x, 1);
        Check.make(x);
        check.due("without keys: compare(1, 2)", x.compare(1, 2), 0);
        Check.release(x, 2, 1, 3, 2);
        check.due("sort(true)", x.sort(true), 4);
        check.due("without keys all are equal", Check.numbers(x), "2 1 3 2");
        check.due("the first key", x.key(0, 1, 0, false), 1);
    }

    private static void noRecords() {
        SortMerge x = new SortMerge();
        check.due("octet(1, 0, 0)", x.octet(1, 0, 0), -2);
        check.due("release(1)", x.release(1), -2);
        check.due("merge(0, 1)", x.merge(0, 1), -2);
        check.dueThrow("compare(1, 1)", IllegalArgumentException.class, () -> x.compare(1, 1));
        check.due("the first record", x.record(), 1);
    }

    private static void eightRowsTwoWays() {
        // released, runs, passes
        int[][] dues = {{7, 1, 0}, {8, 1, 0}, {9, 2, 1}, {16, 2, 1}, {17, 3, 2}, {32, 4, 2}, {33, 5, 3}};
        for (int[] d : dues) {
            SortMerge x = new SortMerge();
            int record = x.record();
            x.begin();
            for (int i = 0; i < d[0]; i++) {
                x.release(record);
            }
            check.due("sort(true)", x.sort(true), d[0]);
            check.due("runs of " + d[0], x.count(4), d[1]);
            check.due("passes of " + d[0], x.count(5), d[2]);
        }
        check.due("ways(16)", new SortMerge().ways(16), 2);
    }

    private static void noCondition() {
        SortMerge x = new SortMerge();
        Check.make(x);
        Check.make(x, 0);
        Check.make(x, 255);
        Check.release(x, 1, 2, 3);
        check.due("without a condition", x.sort(true), 3);
        check.due("count(6)", x.count(6), 0);
    }

    private static void noSums() {
        SortMerge x = new SortMerge();
        Check.make(x, 1);
        Check.release(x, 1, 1, 1);
        check.due("without sums equal ones stay", x.sort(true), 3);
        check.due("count(7)", x.count(7), 0);
        check.due("the first field of sums", x.sum(0, 1), 1);
    }

    private static void noExits() {
        SortMerge x = new SortMerge();
        Check.make(x, 255);
        Check.make(x);
        Check.release(x, 1, 2);
        check.due("without exits", x.sort(true), 2);
        check.due("all come out as they were", Check.all(x), "1: 255; 2:; ");
        check.due("count(8)", x.count(8), 0);
        check.due("failed()", x.failed(), 0);
    }

    private static void idle() {
        SortMerge x = new SortMerge();
        x.record();
        check.due("count(2)", x.count(2), 0);
        check.due("release(1)", x.release(1), -5);
        check.due("sort(true)", x.sort(true), -5);
        check.due("next()", x.next(), -5);
        check.due("value(0)", x.value(0), SortMerge.NONE);
        check.due("begin()", x.begin(), 1);
    }
}
