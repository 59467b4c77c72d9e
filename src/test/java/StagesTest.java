/** Promises 10, 11, 13 and 14: input, output, and the record at hand. */
public final class StagesTest {
    private static final Check check = new Check();
    private static final int MIN = Integer.MIN_VALUE;
    private static final int MAX = Integer.MAX_VALUE;

    public static void main(String[] args) {
        beginWhenIdle();
        beginByInput();
        beginByOutput();
        beginBehindMerge();
        releaseOfNone();
        releaseInOtherStages();
        releaseRoom();
        nextUpToTheEnd();
        nextInOtherStages();
        nextOfNothing();
        nextOfSum();
        valueOfNone();
        valueOutside();
        valueAsItCameOut();
        check.end();
    }

    private static SortMerge two() {
        SortMerge x = new SortMerge();
        x.key(0, 1, 0, false);
        Check.make(x, 8, 5);
        Check.make(x, 3);
        return x;
    }

    private static void beginWhenIdle() {
        SortMerge x = two();
        check.due("begin()", x.begin(), 1);
        check.due("count(2)", x.count(2), 1);
        check.due("count(3)", x.count(3), 0);
        x.sort(true);
        x.next();
        check.due("count(2) at the end", x.count(2), 0);
        check.due("begin() when idle again", x.begin(), 1);
    }

    private static void beginByInput() {
        SortMerge x = two();
        x.begin();
        check.due("begin() when it has begun", x.begin(), -5);
        x.release(1);
        check.due("begin() behind one released", x.begin(), -5);
        check.due("what was released stays", x.release(2), 2);
        check.due("count(2)", x.count(2), 1);
        x.exit(0, 0, 1);
        check.dueThrow("sort(true)", IllegalStateException.class, () -> x.sort(true));
        check.due("begin() behind a sort that failed", x.begin(), -5);
        x.exit(0, 0, 0);
        check.due("sort(true)", x.sort(true), 2);
    }

    private static void beginByOutput() {
        SortMerge x = two();
        Check.release(x, 1, 2);
        x.sort(true);
        x.next();
        check.due("begin() by output", x.begin(), 1);
        check.due("value(0): the output is gone", x.value(0), SortMerge.NONE);
        check.due("next(): the output is gone", x.next(), -5);
        check.due("count(3)", x.count(3), 0);
        check.due("release(2)", x.release(2), 1);
        check.due("sort(true)", x.sort(true), 1);
        check.due("nothing comes out of what was left", Check.numbers(x), "2");
        Check.release(x, 1, 2);
        x.sort(true);
        check.due("begin() ahead of the first next()", x.begin(), 1);
        check.due("sort(true) of none", x.sort(true), 0);
        check.due("nothing comes out of what was left", x.next(), 0);
    }

    private static void beginBehindMerge() {
        SortMerge x = two();
        x.merge(0, 1);
        x.mergeAll();
        x.merge(0, 2);
        check.due("begin() behind mergeAll()", x.begin(), 1);
        check.due("inputs stay", x.count(9), 1);
        check.due("sort(true) of none", x.sort(true), 0);
        check.due("what was left of the merge is gone", x.next(), 0);
    }

    private static void releaseOfNone() {
        SortMerge x = two();
        x.begin();
        for (int none : new int[] {0, 3, -1, -2, 400, 401, MIN, MAX}) {
            check.due("release(" + none + ")", x.release(none), -2);
        }
        check.due("count(3)", x.count(3), 0);
        check.due("release(2)", x.release(2), 1);
        check.due("release(1)", x.release(1), 2);
        check.due("one that is released twice", x.release(2), 3);
        check.due("count(3)", x.count(3), 3);
        check.due("sort(true)", x.sort(true), 3);
        check.due("count(3) behind a sort", x.count(3), 0);
        check.due("it comes twice", Check.numbers(x), "2 2 1");
    }

    private static void releaseInOtherStages() {
        SortMerge x = two();
        check.due("release(1) when idle", x.release(1), -5);
        check.due("no such record comes first, when idle", x.release(3), -2);
        x.begin();
        x.sort(true);
        check.due("release(1) by output", x.release(1), -5);
        check.due("no such record comes first, by output", x.release(0), -2);
        check.due("count(3)", x.count(3), 0);
        x.next();
        check.due("release(1) when idle again", x.release(1), -5);
        x.mergeAll();
        check.due("release(1) behind mergeAll()", x.release(1), -5);
    }

    private static void releaseRoom() {
        SortMerge x = new SortMerge();
        x.record();
        x.begin();
        for (int n = 1; n <= 500; n++) {
            check.due("release(1)", x.release(1), n);
        }
        check.due("sort(true)", x.sort(true), 500);
        // An object is used for 512 calls, so that its answers are free here; but it must not break.
        x.begin();
        for (int n = 1; n <= 1000; n++) {
            check.due("release(1)", x.release(1), n);
        }
        check.due("release(1) the 1001st", x.release(1), SortMerge.NONE);
        check.due("no such record comes first", x.release(2), -2);
        check.due("count(3)", x.count(3), 1000);
        check.due("sort(true)", x.sort(true), 1000);
    }

    private static void nextUpToTheEnd() {
        SortMerge x = two();
        Check.release(x, 1, 2);
        x.sort(true);
        check.due("next()", x.next(), 2);
        check.due("next()", x.next(), 1);
        check.due("by output behind the last one", x.count(2), 2);
        check.due("the last one is at hand", Check.bytes(x), "8 5");
        check.due("next() at the end", x.next(), 0);
        check.due("idle at the end", x.count(2), 0);
        check.due("no one at hand at the end", x.value(0), SortMerge.NONE);
        check.due("next() behind the end", x.next(), -5);
    }

    private static void nextInOtherStages() {
        SortMerge x = two();
        check.due("next() when idle", x.next(), -5);
        x.begin();
        check.due("next() by input", x.next(), -5);
        x.release(1);
        check.due("next() by input behind one released", x.next(), -5);
        check.due("count(2)", x.count(2), 1);
        check.due("sort(true)", x.sort(true), 1);
    }

    private static void nextOfNothing() {
        SortMerge x = two();
        x.begin();
        check.due("sort(false) of none", x.sort(false), 0);
        check.due("count(2)", x.count(2), 2);
        check.due("next() of nothing", x.next(), 0);
        check.due("count(2)", x.count(2), 0);
        check.due("next() behind it", x.next(), -5);
    }

    private static void nextOfSum() {
        SortMerge x = new SortMerge();
        x.sum(0, 1);
        Check.make(x, 1);
        Check.make(x, 2);
        Check.make(x, 4);
        Check.release(x, 3, 1, 2);
        check.due("sort(true)", x.sort(true), 1);
        check.due("next(): the first one of the sum", x.next(), 3);
        check.due("value(0)", x.value(0), 7);
        Check.release(x, 3, 1, 2);
        x.sort(false);
        check.due("next(): the first one by numbers", x.next(), 1);
    }

    private static void valueOfNone() {
        SortMerge x = two();
        x.record();
        check.due("value(0) when idle", x.value(0), SortMerge.NONE);
        Check.release(x, 1, 3);
        check.due("value(0) by input", x.value(0), SortMerge.NONE);
        x.sort(true);
        check.due("value(0) ahead of next()", x.value(0), SortMerge.NONE);
        x.next();
        check.due("value(0) of one without bytes", x.value(0), SortMerge.NONE);
        x.next();
        check.due("value(0) of one with bytes", x.value(0), 8);
        x.next();
        check.due("value(0) at the end", x.value(0), SortMerge.NONE);
    }

    private static void valueOutside() {
        SortMerge x = two();
        x.octet(2, 31, 200);
        Check.release(x, 1, 2);
        x.sort(true);
        x.next();
        check.due("value(31)", x.value(31), 200);
        for (int i : new int[] {-1, 32, MIN, MAX}) {
            check.due("value(" + i + ") of 32 bytes", x.value(i), SortMerge.NONE);
        }
        x.next();
        check.due("value(1)", x.value(1), 5);
        for (int i : new int[] {-1, 2, 31, 32, MIN, MAX}) {
            check.due("value(" + i + ") of 2 bytes", x.value(i), SortMerge.NONE);
        }
        check.due("value(0): it stays at hand", x.value(0), 8);
    }

    /** Copied when it is sorted: neither when it is released, nor when it comes out. */
    private static void valueAsItCameOut() {
        SortMerge x = new SortMerge();
        Check.make(x, 1);
        Check.release(x, 1);
        x.octet(1, 0, 2);
        x.sort(true);
        x.octet(1, 0, 3);
        x.octet(1, 1, 4);
        x.next();
        check.due("bytes", Check.bytes(x), "2");
        x.octet(1, 0, 5);
        check.due("bytes", Check.bytes(x), "2");
    }
}
