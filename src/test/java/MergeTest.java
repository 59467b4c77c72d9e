/** Promises 15 and 16: ordered inputs merged. */
public final class MergeTest {
    private static final Check check = new Check();

    public static void main(String[] args) {
        refusals();
        merges();
        settingsDontCount();
        outOfOrder();
        byOutput();
        check.end();
    }

    private static SortMerge three() {
        SortMerge x = new SortMerge();
        x.key(0, 1, 0, false);
        Check.make(x, 1);
        Check.make(x, 2);
        Check.make(x, 2, 9);
        return x;
    }

    private static void refusals() {
        SortMerge x = new SortMerge();
        check.due("no such record ahead of outside", x.merge(8, 1), -2);
        x.record();
        check.due("merge(8, 1)", x.merge(8, 1), -4);
        check.due("merge(-1, 1)", x.merge(-1, 1), -4);
        check.due("merge(min, 1)", x.merge(Integer.MIN_VALUE, 1), -4);
        check.due("merge(0, 0)", x.merge(0, 0), -2);
        for (int n = 1; n <= 200; n++) {
            check.due("merge(7, 1)", x.merge(7, 1), n);
        }
        check.due("merge(7, 1) the 201st", x.merge(7, 1), SortMerge.NONE);
        check.due("merge(6, 1)", x.merge(6, 1), 1);
        check.due("count(9)", x.count(9), 201);
        check.due("mergeAll()", x.mergeAll(), 201);
    }

    private static void merges() {
        SortMerge x = three();
        check.due("mergeAll() of nothing", x.mergeAll(), 0);
        check.due("count(2)", x.count(2), 2);
        check.due("next()", x.next(), 0);
        Check.merge(x, 7, 1, 3);
        Check.merge(x, 2, 2, 3, 2);
        Check.merge(x, 0, 3);
        x.begin();
        check.due("merge by input", x.merge(0, 3), 2);
        check.due("mergeAll() by input", x.mergeAll(), -5);
        x.sort(false);
        check.due("mergeAll()", x.mergeAll(), 7);
        check.due("count(9)", x.count(9), 0);
        check.due("value ahead of next", x.value(0), SortMerge.NONE);
        x.octet(1, 0, 50);
        check.due("next()", x.next(), 1);
        check.due("bytes as they came out", Check.bytes(x), "1");
        check.due("equal ones by inputs, then as they came", Check.numbers(x), "3 3 2 3 2 3");
        for (int input = 0; input < 8; input++) {
            check.due("merge() into an empty one", x.merge(input, 1), 1);
        }
    }

    private static void settingsDontCount() {
        SortMerge x = three();
        x.area(1);
        x.sum(1, 1);
        x.include(0, 0, 2);
        x.exit(1, 1, 0);
        Check.release(x, 1, 2, 2, 3);
        check.due("sort(true)", x.sort(true), 1);
        x.exit(0, 1, 1);
        x.exit(1, 2, 1);
        Check.merge(x, 0, 1, 2, 3);
        Check.merge(x, 1, 1);
        check.due("counts", Check.counts(x), "1 3 2 0 3 2 1 2 0 4");
        check.due("mergeAll()", x.mergeAll(), 4);
        check.due("counts of the latest sort stay", Check.counts(x), "1 3 2 0 3 2 1 2 0 0");
        x.next();
        check.due("bytes", Check.bytes(x), "1");
        check.due("numbers", Check.numbers(x), "1 2 3");
    }

    private static void outOfOrder() {
        SortMerge x = three();
        Check.merge(x, 0, 1, 2);
        Check.merge(x, 6, 2, 1);
        Check.merge(x, 4, 1, 3, 2, 1);
        check.due("the first one", x.mergeAll(), -14);
        check.due("count(9)", x.count(9), 8);
        check.due("count(2)", x.count(2), 0);
        x.begin();
        check.due("the stage comes first", x.mergeAll(), -5);
        x.release(2);
        x.release(1);
        x.sort(true);
        x.next();
        check.due("out of order by output", x.mergeAll(), -14);
        check.due("the record at hand stays", x.value(0), 1);
        check.due("the output stays", Check.numbers(x), "2");
        x.octet(1, 0, 3);
        check.due("records are compared as they are now", x.mergeAll(), -10);
        x.octet(1, 0, 2);
        check.due("mergeAll()", x.mergeAll(), 8);
        check.due("numbers", Check.numbers(x), "1 2 1 3 2 1 2 1");
    }

    private static void byOutput() {
        SortMerge x = three();
        Check.release(x, 1, 1, 1, 1);
        x.sort(true);
        x.next();
        x.merge(3, 2);
        check.due("mergeAll() by output", x.mergeAll(), 1);
        check.due("value ahead of next", x.value(0), SortMerge.NONE);
        check.due("numbers", Check.numbers(x), "2");
        check.due("count(4) is of the latest sort", x.count(4), 1);
        check.due("count(2)", x.count(2), 0);
    }
}
