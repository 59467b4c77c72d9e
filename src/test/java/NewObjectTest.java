/** Promise 1: what a new object has. */
public final class NewObjectTest {
    public static void main(String[] args) {
        Check check = new Check();
        SortMerge x = new SortMerge();
        check.due("counts", Check.counts(x), "0 0 0 0 0 0 0 0 0 0");
        check.due("failed()", x.failed(), 0);
        check.due("value(0)", x.value(0), SortMerge.NONE);
        check.due("next()", x.next(), -5);
        check.due("sort(true)", x.sort(true), -5);
        check.due("ways(2)", x.ways(2), 2);
        check.due("NONE", SortMerge.NONE, -1);
        eightRowsTwoWays(check);
        nothingTold(check);
        check.end();
    }

    /** 33 rows in an area of 8 make 5 runs, and these by two ways 3 passes. */
    private static void eightRowsTwoWays(Check check) {
        SortMerge x = new SortMerge();
        int record = x.record();
        x.begin();
        for (int i = 0; i < 33; i++) {
            x.release(record);
        }
        check.due("sort(true)", x.sort(true), 33);
        check.due("count(4)", x.count(4), 5);
        check.due("count(5)", x.count(5), 3);
    }

    private static void nothingTold(Check check) {
        SortMerge x = new SortMerge();
        Check.make(x, 2);
        Check.make(x, 1);
        Check.make(x);
        Check.release(x, 2, 1, 3, 2);
        check.due("sort(true)", x.sort(true), 4);
        check.due("without keys all are equal", Check.numbers(x), "2 1 3 2");
    }
}
