/** Promise 1: what a new object has. */
public final class NewObjectTest {
    public static void main(String[] args) {
        Check check = new Check();
        SortMerge x = new SortMerge();
        check.due("counts", Check.counts(x), "0 0 0 0 0 0 0 0 0 0");
        check.due("failed()", x.failed(), 0);
        check.due("value(0)", x.value(0), SortMerge.NONE);
        check.due("next()", x.next(), -5);
        check.due("sort(true)", x.sort(true), -5);
        check.due("ways(2)", x.ways(2), 2);
        check.due("NONE", SortMerge.NONE, -1);
        eightRowsTwoWays(check);
        nothingTold(check);
        check.end();
    }

    private static void eightRowsTwoWays(Check check) {
        // released, runs, passes
        int[][] dues = {{8, 1, 0}, {9, 2, 1}, {16, 2, 1}, {17, 3, 2}, {33, 5, 3}};
        for (int[] d : dues) {
            SortMerge x = new SortMerge();
            int record = x.record();
            x.begin();
            for (int i = 0; i < d[0]; i++) {
                x.release(record);
            }
            check.due("sort(true)", x.sort(true), d[0]);
            check.due("runs of " + d[0], x.count(4), d[1]);
            check.due("passes of " + d[0], x.count(5), d[2]);
        }
    }

    private static void nothingTold(Check check) {
        SortMerge x = new SortMerge();
        Check.make(x, 2);
        Check.make(x, 1);
        Check.make(x);
        Check.release(x, 2, 1, 3, 2);
        check.due("sort(true)", x.sort(true), 4);
        check.due("without keys all are equal", Check.numbers(x), "2 1 3 2");
    }
}
