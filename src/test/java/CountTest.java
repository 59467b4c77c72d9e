/** Promise 19: what is counted. */
public final class CountTest {
    public static void main(String[] args) {
        Check check = new Check();
        SortMerge x = new SortMerge();
        for (int what : new int[] {-1, 10, Integer.MIN_VALUE, Integer.MAX_VALUE}) {
            check.due("count(" + what + ")", x.count(what), SortMerge.NONE);
        }
        x.key(0, 1, 0, false);
        x.sum(1, 1);
        x.area(1);
        x.include(0, 1, 50);
        x.exit(0, 3, 0);
        x.exit(1, 1, 0);
        Check.make(x, 1, 1);
        Check.make(x, 2, 1);
        Check.make(x, 50);
        Check.make(x);
        x.merge(5, 1);
        Check.release(x, 1, 1, 1, 2, 2, 3, 4, 4);
        check.due("by input", Check.counts(x), "1 4 1 8 0 0 0 0 0 1");
        check.due("sort(true)", x.sort(true), 1);
        check.due("by output", Check.counts(x), "1 4 2 0 5 3 3 3 1 1");
        check.due("numbers", Check.numbers(x), "1");
        check.due("idle", Check.counts(x), "1 4 0 0 5 3 3 3 1 1");
        x.begin();
        check.due("begun", Check.counts(x), "1 4 1 0 5 3 3 3 1 1");
        x.sort(true);
        check.due("a sort of none", Check.counts(x), "1 4 2 0 0 0 0 0 0 1");
        Check.release(x, 2);
        x.sort(true);
        check.due("a sort of one", Check.counts(x), "1 4 2 0 1 0 0 0 0 1");
        others(check);
        failedSort(check);
        check.end();
    }

    private static void others(Check check) {
        SortMerge x = new SortMerge();
        x.begin();
        for (int what = -20; what <= 30; what++) {
            check.due("count(" + what + ")", x.count(what), what < 0 || what > 9 ? -1 : what == 2 ? 1 : 0);
        }
        check.due("count(256)", x.count(256), -1);
        check.due("count(min + 2)", x.count(Integer.MIN_VALUE + 2), -1);
    }

    /** A sort that fails is not the latest one; mergeAll is no sort. */
    private static void failedSort(Check check) {
        SortMerge x = new SortMerge();
        x.area(1);
        x.sum(0, 1);
        Check.make(x, 200);
        Check.make(x, 1);
        Check.make(x);
        x.include(0, 1, 0);
        x.exit(1, 1, 0);
        Check.release(x, 1, 1, 2, 3);
        check.due("sort(true)", x.sort(true), 1);
        check.due("counts", Check.counts(x), "0 3 2 0 3 2 1 1 1 0");
        x.exit(1, 1, 1);
        x.include(0, 4, 0);
        Check.release(x, 2, 2);
        check.due("by input", Check.counts(x), "0 3 1 2 3 2 1 1 1 0");
        check.dueThrow("sort(true)", IllegalStateException.class, () -> x.sort(true));
        check.due("nothing is changed", Check.counts(x), "0 3 1 2 3 2 1 1 1 0");
        x.exit(1, 0, 0);
        x.sort(true);
        check.due("a sort that doesn't fail", Check.counts(x), "0 3 2 0 2 1 0 1 0 0");
        x.merge(7, 1);
        x.merge(0, 1);
        check.due("inputs", Check.counts(x), "0 3 2 0 2 1 0 1 0 2");
        x.mergeAll();
        check.due("mergeAll() is no sort", Check.counts(x), "0 3 2 0 2 1 0 1 0 0");
    }
}
