/** Promises 15 and 16: ordered inputs merged. */
public final class MergeTest {
    private static final Check check = new Check();

    public static void main(String[] args) {
        refusals();
        merges();
        settingsDontCount();
        outOfOrder();
        byOutput();
        roomOfEachInput();
        inAllStages();
        noInputs();
        eachInputOutOfOrder();
        inOrderAtTheEdges();
        outOfOrderChangesNothing();
        allEightInputs();
        check.end();
    }

    private static SortMerge three() {
        SortMerge x = new SortMerge();
        x.key(0, 1, 0, false);
        Check.make(x, 1);
        Check.make(x, 2);
        Check.make(x, 2, 9);
        return x;
    }

    private static void refusals() {
        SortMerge x = new SortMerge();
        check.due("no such record ahead of outside", x.merge(8, 1), -2);
        x.record();
        check.due("merge(8, 1)", x.merge(8, 1), -4);
        check.due("merge(-1, 1)", x.merge(-1, 1), -4);
        check.due("merge(min, 1)", x.merge(Integer.MIN_VALUE, 1), -4);
        check.due("merge(max, 1)", x.merge(Integer.MAX_VALUE, 1), -4);
        for (int none : new int[] {0, 2, -1, 400, 401, Integer.MIN_VALUE, Integer.MAX_VALUE}) {
            check.due("merge(0, " + none + ")", x.merge(0, none), -2);
            check.due("merge(-1, " + none + ")", x.merge(-1, none), -2);
        }
        check.due("count(9)", x.count(9), 0);
        for (int n = 1; n <= 200; n++) {
            check.due("merge(7, 1)", x.merge(7, 1), n);
        }
        check.due("merge(7, 1) the 201st", x.merge(7, 1), SortMerge.NONE);
        check.due("merge(6, 1)", x.merge(6, 1), 1);
        check.due("count(9)", x.count(9), 201);
        check.due("mergeAll()", x.mergeAll(), 201);
    }

    private static void merges() {
        SortMerge x = three();
        check.due("mergeAll() of nothing", x.mergeAll(), 0);
        check.due("count(2)", x.count(2), 2);
        check.due("next()", x.next(), 0);
        Check.merge(x, 7, 1, 3);
        Check.merge(x, 2, 2, 3, 2);
        Check.merge(x, 0, 3);
        x.begin();
        check.due("merge by input", x.merge(0, 3), 2);
        check.due("mergeAll() by input", x.mergeAll(), -5);
        x.sort(false);
        check.due("mergeAll()", x.mergeAll(), 7);
        check.due("count(9)", x.count(9), 0);
        check.due("value ahead of next", x.value(0), SortMerge.NONE);
        x.octet(1, 0, 50);
        check.due("next()", x.next(), 1);
        check.due("bytes as they came out", Check.bytes(x), "1");
        check.due("equal ones by inputs, then as they came", Check.numbers(x), "3 3 2 3 2 3");
        for (int input = 0; input < 8; input++) {
            check.due("merge() into an empty one", x.merge(input, 1), 1);
        }
    }

    private static void settingsDontCount() {
        SortMerge x = three();
        x.area(1);
        x.sum(1, 1);
        x.include(0, 0, 2);
        x.exit(1, 1, 0);
        Check.release(x, 1, 2, 2, 3);
        check.due("sort(true)", x.sort(true), 1);
        x.exit(0, 1, 1);
        x.exit(1, 2, 1);
        Check.merge(x, 0, 1, 2, 3);
        Check.merge(x, 1, 1);
        check.due("counts", Check.counts(x), "1 3 2 0 3 2 1 2 0 4");
        check.due("mergeAll()", x.mergeAll(), 4);
        check.due("counts of the latest sort stay", Check.counts(x), "1 3 2 0 3 2 1 2 0 0");
        x.next();
        check.due("bytes", Check.bytes(x), "1");
        check.due("numbers", Check.numbers(x), "1 2 3");
    }

    private static void outOfOrder() {
        SortMerge x = three();
        Check.merge(x, 0, 1, 2);
        Check.merge(x, 6, 2, 1);
        Check.merge(x, 4, 1, 3, 2, 1);
        check.due("the first one", x.mergeAll(), -14);
        check.due("count(9)", x.count(9), 8);
        check.due("count(2)", x.count(2), 0);
        x.begin();
        check.due("the stage comes first", x.mergeAll(), -5);
        x.release(2);
        x.release(1);
        x.sort(true);
        x.next();
        check.due("out of order by output", x.mergeAll(), -14);
        check.due("the record at hand stays", x.value(0), 1);
        check.due("the output stays", Check.numbers(x), "2");
        x.octet(1, 0, 3);
        check.due("records are compared as they are now", x.mergeAll(), -10);
        x.octet(1, 0, 2);
        check.due("mergeAll()", x.mergeAll(), 8);
        check.due("numbers", Check.numbers(x), "1 2 1 3 2 1 2 1");
    }

    private static void byOutput() {
        SortMerge x = three();
        Check.release(x, 1, 1, 1, 1);
        x.sort(true);
        x.next();
        x.merge(3, 2);
        check.due("mergeAll() by output", x.mergeAll(), 1);
        check.due("value ahead of next", x.value(0), SortMerge.NONE);
        check.due("numbers", Check.numbers(x), "2");
        check.due("count(4) is of the latest sort", x.count(4), 1);
        check.due("count(2)", x.count(2), 0);
    }

    private static void roomOfEachInput() {
        SortMerge x = new SortMerge();
        x.record();
        for (int n = 1; n <= 200; n++) {
            check.due("merge(0, 1)", x.merge(0, 1), n);
            check.due("merge(1, 1)", x.merge(1, 1), n);
        }
        check.due("merge(0, 1) the 201st", x.merge(0, 1), SortMerge.NONE);
        check.due("merge(1, 1) the 201st", x.merge(1, 1), SortMerge.NONE);
        check.due("no such record comes first", x.merge(0, 2), -2);
        check.due("no such record comes first", x.merge(8, 0), -2);
        check.due("outside", x.merge(8, 1), -4);
        check.due("merge(2, 1): another one has room", x.merge(2, 1), 1);
        check.due("count(9)", x.count(9), 401);
        check.due("mergeAll()", x.mergeAll(), 401);
        check.due("count(9)", x.count(9), 0);
        check.due("merge(0, 1): it is empty", x.merge(0, 1), 1);
    }

    private static void inAllStages() {
        SortMerge x = three();
        check.due("merge(0, 1) when idle", x.merge(0, 1), 1);
        x.begin();
        check.due("merge(0, 2) by input", x.merge(0, 2), 2);
        check.due("mergeAll() by input", x.mergeAll(), -5);
        check.due("inputs stay", x.count(9), 2);
        x.sort(true);
        check.due("merge(0, 3) by output", x.merge(0, 3), 3);
        check.due("mergeAll() by output", x.mergeAll(), 3);
        check.due("count(2)", x.count(2), 2);
        check.due("next()", x.next(), 1);
        check.due("merge(0, 1) by output of a merge", x.merge(0, 1), 1);
        check.due("what comes out stays", Check.numbers(x), "2 3");
        check.due("mergeAll() when idle", x.mergeAll(), 1);
        check.due("numbers", Check.numbers(x), "1");
        check.due("count(2)", x.count(2), 0);
    }

    private static void noInputs() {
        SortMerge x = three();
        check.due("mergeAll() without inputs", x.mergeAll(), 0);
        check.due("count(2)", x.count(2), 2);
        check.due("mergeAll() once more", x.mergeAll(), 0);
        check.due("next()", x.next(), 0);
        check.due("count(2)", x.count(2), 0);
        Check.release(x, 1, 2);
        x.sort(true);
        check.due("mergeAll() without inputs by output", x.mergeAll(), 0);
        check.due("what was left is gone", x.next(), 0);
    }

    private static void eachInputOutOfOrder() {
        for (int input = 0; input < 8; input++) {
            SortMerge x = three();
            for (int other = 0; other < 8; other++) {
                Check.merge(x, other, other < input ? new int[] {1, 2} : new int[] {2, 1});
            }
            check.due("from input " + input + " on", x.mergeAll(), -10 - input);
            check.due("count(9)", x.count(9), 16);
        }
    }

    /** Nothing, one, and equal ones are in order; the last two count as the first two do; keys go down. */
    private static void inOrderAtTheEdges() {
        SortMerge x = three();
        Check.merge(x, 1, 2);
        Check.merge(x, 2, 3, 2, 3, 2);
        Check.merge(x, 3, 1, 1);
        check.due("equal ones are in order", x.mergeAll(), 7);
        check.due("equal ones by inputs, then as they came", Check.numbers(x), "1 1 2 3 2 3 2");
        Check.merge(x, 0, 1, 2, 3, 2, 1);
        check.due("only the last one is out of order", x.mergeAll(), -10);
        SortMerge down = new SortMerge();
        down.key(0, 1, 0, true);
        Check.make(down, 1);
        Check.make(down, 2);
        Check.merge(down, 0, 2, 1);
        check.due("down", down.mergeAll(), 2);
        check.due("numbers", Check.numbers(down), "2 1");
        Check.merge(down, 7, 1, 2);
        check.due("up is out of order", down.mergeAll(), -17);
        SortMerge without = new SortMerge();
        Check.make(without, 2);
        Check.make(without, 1);
        Check.merge(without, 1, 1, 2, 1);
        Check.merge(without, 0, 2);
        check.due("without keys all are in order", without.mergeAll(), 4);
        check.due("by inputs", Check.numbers(without), "2 1 2 1");
    }

    private static void outOfOrderChangesNothing() {
        SortMerge x = three();
        x.area(1);
        Check.release(x, 2, 3, 1);
        x.sort(false);
        x.next();
        Check.merge(x, 3, 2, 1);
        String before = Check.counts(x);
        check.due("mergeAll()", x.mergeAll(), -13);
        check.due("counts stay", Check.counts(x), before);
        check.due("the record at hand stays", Check.bytes(x), "1");
        check.due("what is left of the output stays", Check.all(x), "2: 2; 3: 2 9; ");
        check.due("mergeAll() when idle", x.mergeAll(), -13);
        check.due("count(2)", x.count(2), 0);
        x.octet(2, 0, 1);
        check.due("the input is there", x.mergeAll(), 2);
        check.due("numbers", Check.numbers(x), "2 1");
    }

    /** The same record in all inputs, and more inputs than the ways that are told. */
    private static void allEightInputs() {
        SortMerge x = new SortMerge();
        x.key(0, 1, 0, false);
        for (int n = 1; n <= 16; n++) {
            Check.make(x, n % 2, n);
        }
        x.ways(2);
        for (int input = 7; input >= 0; input--) {
            check.due("merge", x.merge(input, 2 * input + 2), 1);
            check.due("merge", x.merge(input, 2 * input + 1), 2);
        }
        check.due("mergeAll()", x.mergeAll(), 16);
        check.due("numbers", Check.numbers(x), "2 4 6 8 10 12 14 16 1 3 5 7 9 11 13 15");
        for (int input = 0; input < 8; input++) {
            check.due("merge of the same one", x.merge(input, 5), 1);
        }
        check.due("mergeAll()", x.mergeAll(), 8);
        check.due("it comes out as often", Check.numbers(x), "5 5 5 5 5 5 5 5");
    }
}
