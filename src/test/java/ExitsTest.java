/** Promises 9 and 18, and counts 6 and 8: exits that change, drop or fail. */
public final class ExitsTest {
    private static final Check check = new Check();

    public static void main(String[] args) {
        inputExit();
        outputExit();
        inputFails();
        outputFails();
        failsWhereItDrops();
        outputSeesSums();
        check.end();
    }

    private static SortMerge four() {
        SortMerge x = new SortMerge();
        x.key(0, 1, 0, true);
        Check.make(x, 255, 1);
        Check.make(x);
        Check.make(x, 7);
        Check.make(x, 9);
        return x;
    }

    private static void sorted(String what, SortMerge x, String numbers, int dropped) {
        Check.release(x, 1, 2, 3, 4);
        check.due(what + ": how many", x.sort(true), numbers.length() / 2 + 1);
        check.due(what, Check.numbers(x), numbers);
        check.due(what + ": count(6) + count(8)", x.count(6) + x.count(8), dropped);
    }

    private static void inputExit() {
        SortMerge x = four();
        sorted("nothing", x, "1 4 3 2", 0);
        x.exit(0, 1, 0);
        sorted("each second one", x, "1 3", 2);
        sorted("counted anew", x, "1 3", 2);
        check.due("count(6)", x.count(6), 2);
        x.exit(0, 2, 0);
        sorted("255 becomes 0, and that ahead of sorting", x, "4 3 1 2", 0);
        sorted("the records stay", x, "4 3 1 2", 0);
        x.exit(0, 3, 0);
        sorted("those without bytes", x, "1 4 3", 1);
        x.include(0, 1, 255);
        x.exit(0, 1, 0);
        sorted("only those that the condition lets through come to it", x, "4 2", 2);
        check.due("count(6)", x.count(6), 2);
    }

    private static void outputExit() {
        SortMerge x = four();
        x.exit(1, 1, 0);
        sorted("each second one", x, "1 3", 2);
        check.due("count(8)", x.count(8), 2);
        check.due("count(6)", x.count(6), 0);
        x.exit(1, 3, 0);
        sorted("those without bytes", x, "1 4 3", 1);
        x.exit(1, 2, 0);
        x.octet(3, 0, 10);
        Check.release(x, 1, 3, 4);
        x.sort(true);
        x.next();
        check.due("255 becomes 0", Check.bytes(x), "0 1");
        x.next();
        check.due("10 becomes 11", Check.bytes(x), "11");
        x.next();
        check.due("9 becomes 10", Check.bytes(x), "10");
    }

    private static void inputFails() {
        SortMerge x = four();
        Check.release(x, 1, 2, 3, 4);
        x.include(0, 3, 8);
        x.sort(true);
        x.include(0, 4, 0);
        x.exit(0, 2, 3);
        Check.release(x, 4, 1, 3, 2);
        String before = Check.counts(x);
        check.dueThrow("sort(true)", IllegalStateException.class, () -> x.sort(true));
        check.due("failed()", x.failed(), 3);
        check.due("counts stay", Check.counts(x), before);
        check.due("value(0)", x.value(0), SortMerge.NONE);
        check.due("next()", x.next(), -5);
        check.dueThrow("sort(false)", IllegalStateException.class, () -> x.sort(false));
        x.exit(0, 0, 5);
        check.due("what was released is there", x.sort(true), 4);
        check.due("nothing was changed", Check.numbers(x), "1 4 3 2");
        check.due("failed() latest", x.failed(), 3);
    }

    private static void outputFails() {
        SortMerge x = four();
        x.area(1);
        Check.release(x, 1, 2, 3, 4);
        x.exit(1, 2, 2);
        String before = Check.counts(x);
        check.dueThrow("sort(true)", IllegalStateException.class, () -> x.sort(true));
        check.due("failed()", x.failed(), 4);
        check.due("counts stay", Check.counts(x), before);
        x.exit(1, 0, 4);
        check.dueThrow("sort(true)", IllegalStateException.class, () -> x.sort(true));
        check.due("failed()", x.failed(), 2);
        check.due("release(1)", x.release(1), 5);
        x.exit(1, 0, 1000);
        check.due("sort(true)", x.sort(true), 5);
        check.due("count(4)", x.count(4), 5);
    }

    private static void failsWhereItDrops() {
        SortMerge x = four();
        Check.release(x, 1, 2, 3, 4);
        x.exit(0, 1, 2);
        check.dueThrow("sort(true)", IllegalStateException.class, () -> x.sort(true));
        check.due("failed()", x.failed(), 2);
        x.exit(0, 1, 3);
        check.dueThrow("a dropped one has come too", IllegalStateException.class, () -> x.sort(true));
        check.due("failed()", x.failed(), 3);
    }

    private static void outputSeesSums() {
        SortMerge x = new SortMerge();
        x.key(0, 1, 0, false);
        x.sum(1, 1);
        x.exit(1, 1, 0);
        Check.make(x, 1, 1);
        Check.make(x, 2, 1);
        Check.make(x, 3, 1);
        Check.release(x, 1, 1, 1, 2, 2, 3);
        check.due("sort(true)", x.sort(true), 2);
        check.due("count(7)", x.count(7), 3);
        check.due("count(8)", x.count(8), 1);
        check.due("numbers", Check.numbers(x), "1 3");
    }
}
