/** Promises 9 and 18, and counts 6 and 8: exits that change, drop or fail. */
public final class ExitsTest {
    private static final Check check = new Check();

    public static void main(String[] args) {
        inputExit();
        outputExit();
        inputFails();
        outputFails();
        failsWhereItDrops();
        outputSeesSums();
        eachSecondOne();
        addsOneModulo();
        withoutBytes();
        failsAtTheEdges();
        failsAmongThoseThatCome();
        changesInTheirOrder();
        failedLatest();
        check.end();
    }

    private static SortMerge four() {
        SortMerge x = new SortMerge();
        x.key(0, 1, 0, true);
        Check.make(x, 255, 1);
        Check.make(x);
        Check.make(x, 7);
        Check.make(x, 9);
        return x;
    }

    private static void sorted(String what, SortMerge x, String numbers, int dropped) {
        Check.release(x, 1, 2, 3, 4);
        check.due(what + ": how many", x.sort(true), numbers.length() / 2 + 1);
        check.due(what, Check.numbers(x), numbers);
        check.due(what + ": count(6) + count(8)", x.count(6) + x.count(8), dropped);
    }

    private static void inputExit() {
        SortMerge x = four();
        sorted("nothing", x, "1 4 3 2", 0);
        x.exit(0, 1, 0);
        sorted("each second one", x, "1 3", 2);
        sorted("counted anew", x, "1 3", 2);
        check.due("count(6)", x.count(6), 2);
        x.exit(0, 2, 0);
        sorted("255 becomes 0, and that ahead of sorting", x, "4 3 1 2", 0);
        sorted("the records stay", x, "4 3 1 2", 0);
        x.exit(0, 3, 0);
        sorted("those without bytes", x, "1 4 3", 1);
        x.include(0, 1, 255);
        x.exit(0, 1, 0);
        sorted("only those that the condition lets through come to it", x, "4 2", 2);
        check.due("count(6)", x.count(6), 2);
    }

    private static void outputExit() {
        SortMerge x = four();
        x.exit(1, 1, 0);
        sorted("each second one", x, "1 3", 2);
        check.due("count(8)", x.count(8), 2);
        check.due("count(6)", x.count(6), 0);
        x.exit(1, 3, 0);
        sorted("those without bytes", x, "1 4 3", 1);
        x.exit(1, 2, 0);
        x.octet(3, 0, 10);
        Check.release(x, 1, 3, 4);
        x.sort(true);
        x.next();
        check.due("255 becomes 0", Check.bytes(x), "0 1");
        x.next();
        check.due("10 becomes 11", Check.bytes(x), "11");
        x.next();
        check.due("9 becomes 10", Check.bytes(x), "10");
    }

    private static void inputFails() {
        SortMerge x = four();
        Check.release(x, 1, 2, 3, 4);
        x.include(0, 3, 8);
        x.sort(true);
        x.include(0, 4, 0);
        x.exit(0, 2, 3);
        Check.release(x, 4, 1, 3, 2);
        String before = Check.counts(x);
        check.dueThrow("sort(true)", IllegalStateException.class, () -> x.sort(true));
        check.due("failed()", x.failed(), 3);
        check.due("counts stay", Check.counts(x), before);
        check.due("value(0)", x.value(0), SortMerge.NONE);
        check.due("next()", x.next(), -5);
        check.dueThrow("sort(false)", IllegalStateException.class, () -> x.sort(false));
        x.exit(0, 0, 5);
        check.due("what was released is there", x.sort(true), 4);
        check.due("nothing was changed", Check.numbers(x), "1 4 3 2");
        check.due("failed() latest", x.failed(), 3);
    }

    private static void outputFails() {
        SortMerge x = four();
        x.area(1);
        Check.release(x, 1, 2, 3, 4);
        x.exit(1, 2, 2);
        String before = Check.counts(x);
        check.dueThrow("sort(true)", IllegalStateException.class, () -> x.sort(true));
        check.due("failed()", x.failed(), 4);
        check.due("counts stay", Check.counts(x), before);
        x.exit(1, 0, 4);
        check.dueThrow("sort(true)", IllegalStateException.class, () -> x.sort(true));
        check.due("failed()", x.failed(), 2);
        check.due("release(1)", x.release(1), 5);
        x.exit(1, 0, 1000);
        check.due("sort(true)", x.sort(true), 5);
        check.due("count(4)", x.count(4), 5);
    }

    private static void failsWhereItDrops() {
        SortMerge x = four();
        Check.release(x, 1, 2, 3, 4);
        x.exit(0, 1, 2);
        check.dueThrow("sort(true)", IllegalStateException.class, () -> x.sort(true));
        check.due("failed()", x.failed(), 2);
        x.exit(0, 1, 3);
        check.dueThrow("a dropped one has come too", IllegalStateException.class, () -> x.sort(true));
        check.due("failed()", x.failed(), 3);
    }

    private static void outputSeesSums() {
        SortMerge x = new SortMerge();
        x.key(0, 1, 0, false);
        x.sum(1, 1);
        x.exit(1, 1, 0);
        Check.make(x, 1, 1);
        Check.make(x, 2, 1);
        Check.make(x, 3, 1);
        Check.release(x, 1, 1, 1, 2, 2, 3);
        check.due("sort(true)", x.sort(true), 2);
        check.due("count(7)", x.count(7), 3);
        check.due("count(8)", x.count(8), 1);
        check.due("numbers", Check.numbers(x), "1 3");
    }

    /** The 2nd, 4th .. is dropped, the 1st, 3rd .. is not. */
    private static void eachSecondOne() {
        String[] dues = {"", "1", "1", "1 3", "1 3", "1 3 5"};
        for (int kind = 0; kind <= 1; kind++) {
            SortMerge x = new SortMerge();
            for (int n = 1; n <= 5; n++) {
                Check.make(x, n);
            }
            x.exit(kind, 1, 0);
            for (int n = 0; n <= 5; n++) {
                x.begin();
                for (int record = 1; record <= n; record++) {
                    x.release(record);
                }
                check.due("kind " + kind + ": how many of " + n, x.sort(true), (n + 1) / 2);
                check.due("kind " + kind + ": counted " + n, x.count(kind == 0 ? 6 : 8), n / 2);
                check.due("kind " + kind + ": the other count", x.count(kind == 0 ? 8 : 6), 0);
                check.due("kind " + kind + " of " + n, Check.numbers(x), dues[n]);
            }
        }
    }

    private static void addsOneModulo() {
        for (int kind = 0; kind <= 1; kind++) {
            SortMerge x = new SortMerge();
            Check.make(x, 254, 9);
            Check.make(x, 255, 255);
            Check.make(x, 0);
            Check.make(x);
            x.exit(kind, 2, 0);
            Check.release(x, 1, 2, 3, 4);
            check.due("none is dropped", x.sort(true), 4);
            check.due("kind " + kind, Check.all(x), "1: 255 9; 2: 0 255; 3: 1; 4:; ");
            x.exit(kind, 0, 0);
            Check.release(x, 1, 2, 3, 4);
            x.sort(true);
            check.due("the records stay", Check.all(x), "1: 254 9; 2: 255 255; 3: 0; 4:; ");
        }
    }

    private static void withoutBytes() {
        for (int kind = 0; kind <= 1; kind++) {
            SortMerge x = new SortMerge();
            Check.make(x, 0);
            Check.make(x);
            x.octet(x.record(), 31, 0);
            x.exit(kind, 3, 0);
            Check.release(x, 2, 1, 2, 3, 2);
            check.due("kind " + kind + ": sort(true)", x.sort(true), 2);
            check.due("kind " + kind + ": a byte 0 is a byte", Check.numbers(x), "1 3");
            check.due("kind " + kind + ": dropped", x.count(kind == 0 ? 6 : 8), 3);
        }
    }

    /** It fails at the first one, at the last one, and not where that many don't come; 0 is never. */
    private static void failsAtTheEdges() {
        for (int kind = 0; kind <= 1; kind++) {
            for (int does = 0; does <= 3; does++) {
                SortMerge x = four();
                x.octet(2, 0, 1);
                Check.release(x, 1, 4, 3, 2);
                int[] order = {1, 4, 3, 2};
                for (int failsAt = 1; failsAt <= 4; failsAt++) {
                    x.exit(kind, does, failsAt);
                    check.dueThrow("kind " + kind + ", does " + does + ", at " + failsAt,
                            IllegalStateException.class, () -> x.sort(true));
                    check.due("failed()", x.failed(), order[failsAt - 1]);
                    check.due("the stage stays", x.count(2), 1);
                    check.due("what was released stays", x.count(3), 4);
                }
                for (int never : new int[] {5, 1000, 0}) {
                    x.exit(kind, does, never);
                    check.due("kind " + kind + ", does " + does + ", at " + never, x.sort(true), does == 1 ? 2 : 4);
                    Check.release(x, 1, 4, 3, 2);
                }
                check.due("failed() latest", x.failed(), 2);
            }
        }
    }

    /** What is dropped or added ahead of an exit doesn't come to it. */
    private static void failsAmongThoseThatCome() {
        SortMerge x = new SortMerge();
        x.key(0, 1, 0, false);
        x.sum(1, 1);
        Check.make(x, 1, 1);
        Check.make(x, 2, 1);
        Check.make(x, 3, 1);
        x.include(0, 1, 1);
        x.exit(0, 0, 3);
        Check.release(x, 1, 2, 1, 3, 1);
        check.due("two come to the input exit", x.sort(true), 2);
        x.exit(0, 0, 2);
        Check.release(x, 1, 2, 1, 3, 1);
        check.dueThrow("the second one", IllegalStateException.class, () -> x.sort(true));
        check.due("failed()", x.failed(), 3);
        x.exit(0, 1, 0);
        x.exit(1, 0, 2);
        check.due("one comes to the output exit", x.sort(true), 1);
        x.exit(0, 0, 0);
        x.include(0, 4, 0);
        Check.release(x, 3, 2, 2, 1, 1, 1);
        check.dueThrow("the second sum", IllegalStateException.class, () -> x.sort(true));
        check.due("failed(): the first one of the sum", x.failed(), 2);
        x.exit(1, 0, 4);
        check.due("three come to the output exit", x.sort(true), 3);
    }

    /** Condition, input exit, sorting, sums, output exit: each sees what the one ahead of it left. */
    private static void changesInTheirOrder() {
        SortMerge x = new SortMerge();
        x.key(0, 1, 0, true);
        Check.make(x, 255, 1);
        Check.make(x, 5, 2);
        Check.make(x, 0, 4);
        x.exit(0, 2, 0);
        x.exit(1, 2, 0);
        Check.release(x, 1, 2, 3);
        x.sort(true);
        check.due("sorted behind the input exit", Check.all(x), "2: 7 2; 3: 2 4; 1: 1 1; ");
        x.include(0, 0, 255);
        Check.release(x, 1, 2, 3);
        x.sort(true);
        check.due("the condition is ahead of the input exit", Check.all(x), "1: 1 1; ");
        x.include(0, 4, 0);
        x.sum(0, 1);
        Check.release(x, 1, 1, 3, 3);
        x.sort(true);
        check.due("sums lie between the exits", Check.all(x), "3: 3 4; 1: 1 1; ");
    }

    private static void failedLatest() {
        SortMerge x = four();
        check.due("failed(): none", x.failed(), 0);
        x.exit(0, 0, 1);
        check.due("failed(): told is not failed", x.failed(), 0);
        Check.release(x, 3, 4);
        check.dueThrow("the input exit", IllegalStateException.class, () -> x.sort(true));
        check.due("failed()", x.failed(), 3);
        x.exit(0, 0, 0);
        x.exit(1, 0, 1);
        check.dueThrow("the output exit", IllegalStateException.class, () -> x.sort(true));
        check.due("failed() latest", x.failed(), 4);
        x.exit(0, 0, 1);
        check.dueThrow("both: the input exit comes first", IllegalStateException.class, () -> x.sort(true));
        check.due("failed() latest", x.failed(), 3);
        x.exit(0, 0, 0);
        x.exit(1, 0, 0);
        check.due("sort(true)", x.sort(true), 2);
        check.due("a sort that doesn't fail leaves it", x.failed(), 3);
        check.due("sort(true) by output", x.sort(true), -5);
        check.due("what is refused leaves it", x.failed(), 3);
        x.begin();
        check.due("begin() leaves it", x.failed(), 3);
    }
}
