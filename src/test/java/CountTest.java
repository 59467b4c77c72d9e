/** Promise 19: what is counted. */
public final class CountTest {
    public static void main(String[] args) {
        Check check = new Check();
        SortMerge x = new SortMerge();
        for (int what : new int[] {-1, 10, Integer.MIN_VALUE, Integer.MAX_VALUE}) {
            check.due("count(" + what + ")", x.count(what), SortMerge.NONE);
        }
        x.key(0, 1, 0, false);
        x.sum(1, 1);
        x.area(1);
        x.include(0, 1, 50);
        x.exit(0, 3, 0);
        x.exit(1, 1, 0);
        Check.make(x, 1, 1);
        Check.make(x, 2, 1);
        Check.make(x, 50);
        Check.make(x);
        x.merge(5, 1);
        Check.release(x, 1, 1, 1, 2, 2, 3, 4, 4);
        check.due("by input", Check.counts(x), "1 4 1 8 0 0 0 0 0 1");
        check.due("sort(true)", x.sort(true), 1);
        check.due("by output", Check.counts(x), "1 4 2 0 5 3 3 3 1 1");
        check.due("numbers", Check.numbers(x), "1");
        check.due("idle", Check.counts(x), "1 4 0 0 5 3 3 3 1 1");
        x.begin();
        check.due("begun", Check.counts(x), "1 4 1 0 5 3 3 3 1 1");
        x.sort(true);
        check.due("a sort of none", Check.counts(x), "1 4 2 0 0 0 0 0 0 1");
        Check.release(x, 2);
        x.sort(true);
        check.due("a sort of one", Check.counts(x), "1 4 2 0 1 0 0 0 0 1");
        check.end();
    }
}
