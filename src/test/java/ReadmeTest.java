/** The two examples of README.md, call by call: what it says there must stay true. */
public final class ReadmeTest {
    private static final Check check = new Check();

    public static void main(String[] args) {
        sortAndMerge();
        sumAndFailure();
        check.end();
    }

    private static void sortAndMerge() {
        SortMerge x = new SortMerge();
        check.due("key", x.key(0, 1, 0, false), 1);
        int a = x.record();
        check.due("record", a, 1);
        check.due("octet", x.octet(a, 0, 'b'), 1);
        int b = x.record();
        check.due("record", b, 2);
        check.due("octet", x.octet(b, 0, 'a'), 1);

        check.due("begin", x.begin(), 1);
        check.due("release", x.release(a), 1);
        check.due("release", x.release(b), 2);
        check.due("sort", x.sort(true), 2);
        check.due("next", x.next(), 2);
        check.due("value", x.value(0), 'a');
        check.due("next", x.next(), 1);
        check.due("next at the end", x.next(), 0);
        check.due("the stage", x.count(2), 0);

        check.due("merge", x.merge(0, b), 1);
        check.due("merge", x.merge(3, a), 1);
        check.due("mergeAll", x.mergeAll(), 2);
    }

    private static void sumAndFailure() {
        SortMerge y = new SortMerge();
        check.due("key", y.key(0, 1, 0, false), 1);
        check.due("sum", y.sum(1, 2), 1);
        check.due("include", y.include(0, 1, '-'), 1);
        Check.make(y, 'a', 0, 200);
        Check.make(y, 'a', 0, 100);
        Check.make(y, '-', 0, 1);
        Check.release(y, 1, 2, 3);
        check.due("exit", y.exit(1, 0, 1), 1);
        check.dueThrow("sort", IllegalStateException.class, () -> y.sort(true));
        check.due("failed", y.failed(), 1);
        check.due("what was released", y.count(3), 3);
        check.due("exit", y.exit(1, 0, 0), 1);
        check.due("sort", y.sort(true), 1);
        check.due("next", y.next(), 1);
        check.due("value(1)", y.value(1), 1);
        check.due("value(2)", y.value(2), 44);
        check.due("count(6)", y.count(6), 1);
        check.due("count(7)", y.count(7), 1);
    }
}
