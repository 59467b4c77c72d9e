/** Promises 10, 11, 13 and 14: input, output, and the record at hand. */
public final class StagesTest {
    private static final Check check = new Check();

    public static void main(String[] args) {
        refusals();
        output();
        beginByOutput();
        copies();
        release();
        check.end();
    }

    private static void refusals() {
        SortMerge x = new SortMerge();
        check.due("no such record ahead of the stage", x.release(1), -2);
        x.record();
        check.due("release when idle", x.release(1), -5);
        check.due("next when idle", x.next(), -5);
        check.due("begin()", x.begin(), 1);
        check.due("count(2)", x.count(2), 1);
        check.due("begin() again", x.begin(), -5);
        check.due("next by input", x.next(), -5);
        check.due("release(0)", x.release(0), -2);
        check.due("release(2)", x.release(2), -2);
        check.due("release(1)", x.release(1), 1);
        check.due("begin() keeps what was released", x.begin(), -5);
        check.due("release(1) again", x.release(1), 2);
        check.due("count(3)", x.count(3), 2);
        check.due("sort(true)", x.sort(true), 2);
        check.due("count(3) behind a sort", x.count(3), 0);
        check.due("release by output", x.release(1), -5);
        check.due("sort by output", x.sort(true), -5);
    }

    private static void output() {
        SortMerge x = new SortMerge();
        x.key(0, 1, 0, false);
        Check.make(x, 8, 5);
        Check.make(x);
        Check.release(x, 1, 2);
        x.sort(true);
        check.due("value ahead of next", x.value(0), SortMerge.NONE);
        check.due("next()", x.next(), 2);
        check.due("value(0) of one without bytes", x.value(0), SortMerge.NONE);
        check.due("next()", x.next(), 1);
        check.due("bytes", Check.bytes(x), "8 5");
        check.due("value(-1)", x.value(-1), SortMerge.NONE);
        check.due("value(2)", x.value(2), SortMerge.NONE);
        check.due("value(min)", x.value(Integer.MIN_VALUE), SortMerge.NONE);
        check.due("value(max)", x.value(Integer.MAX_VALUE), SortMerge.NONE);
        check.due("count(2)", x.count(2), 2);
        check.due("next() at the end", x.next(), 0);
        check.due("count(2)", x.count(2), 0);
        check.due("no one at hand", x.value(0), SortMerge.NONE);
        check.due("next() when idle", x.next(), -5);
        check.due("begin()", x.begin(), 1);
        check.due("sort of none", x.sort(false), 0);
        check.due("next()", x.next(), 0);
    }

    private static void beginByOutput() {
        SortMerge x = new SortMerge();
        Check.make(x, 1);
        Check.make(x, 2);
        Check.release(x, 1, 2);
        x.sort(true);
        x.next();
        check.due("begin() by output", x.begin(), 1);
        check.due("value(0): the output is gone", x.value(0), SortMerge.NONE);
        check.due("count(3)", x.count(3), 0);
        check.due("release(2)", x.release(2), 1);
        check.due("sort(true)", x.sort(true), 1);
        check.due("numbers", Check.numbers(x), "2");
    }

    /** Copied when it is sorted: neither when it is released, nor when it comes out. */
    private static void copies() {
        SortMerge x = new SortMerge();
        Check.make(x, 1);
        Check.release(x, 1);
        x.octet(1, 0, 2);
        x.sort(true);
        x.octet(1, 0, 3);
        x.octet(1, 1, 4);
        x.next();
        check.due("bytes", Check.bytes(x), "2");
        x.octet(1, 0, 5);
        check.due("bytes", Check.bytes(x), "2");
    }

    private static void release() {
        SortMerge x = new SortMerge();
        x.record();
        x.begin();
        for (int n = 1; n <= 500; n++) {
            check.due("release(1)", x.release(1), n);
        }
        check.due("sort(true)", x.sort(true), 500);
        // An object is used for 512 calls, so that its answers are free here; but it must not break.
        x.begin();
        for (int n = 1; n <= 1000; n++) {
            check.due("release(1)", x.release(1), n);
        }
        check.due("release(1) the 1001st", x.release(1), SortMerge.NONE);
        check.due("sort(true)", x.sort(true), 1000);
    }
}
