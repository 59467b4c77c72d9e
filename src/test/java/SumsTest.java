/** Promise 8, and count 7: sums of equal ones. */
public final class SumsTest {
    private static final Check check = new Check();

    public static void main(String[] args) {
        adds();
        overflow();
        eightBytes();
        shortOnes();
        onlyNeighbours();
        fieldInKey();
        fieldsThatOverlap();
        check.end();
    }

    private static String all(SortMerge x) {
        StringBuilder text = new StringBuilder();
        for (int number = x.next(); number > 0; number = x.next()) {
            text.append(number).append(": ").append(Check.bytes(x)).append("; ");
        }
        return text.toString();
    }

    private static void adds() {
        SortMerge x = new SortMerge();
        x.key(0, 1, 0, false);
        x.sum(1, 2);
        x.sum(4, 1);
        Check.make(x, 1, 0, 200, 9, 1);
        Check.make(x, 1, 1, 100, 8, 2, 77);
        Check.make(x, 1, 0, 1, 7, 3);
        Check.make(x, 0, 0, 1, 7, 3);
        Check.release(x, 2, 1, 3, 4);
        check.due("sort(false)", x.sort(false), 2);
        check.due("count(7)", x.count(7), 2);
        check.due("the first one has the sum", all(x), "4: 0 0 1 7 3; 1: 1 2 45 9 6; ");
        Check.release(x, 2, 1, 3, 4);
        check.due("sort(true)", x.sort(true), 2);
        check.due("records stay as they were", all(x), "4: 0 0 1 7 3; 2: 1 2 45 8 6 77; ");
    }

    private static void overflow() {
        SortMerge x = new SortMerge();
        x.sum(0, 1);
        x.sum(1, 1);
        Check.make(x, 250, 1);
        Check.make(x, 5, 1);
        Check.make(x, 1, 1);
        Check.make(x, 2, 254);
        Check.make(x, 0, 1);
        Check.release(x, 1, 2, 3, 4, 5);
        check.due("sort(true)", x.sort(true), 3);
        check.due("255 fits, 256 stays by itself, and the next ones go to it",
                all(x), "1: 255 2; 3: 3 255; 5: 0 1; ");
        check.due("count(7)", x.count(7), 2);
    }

    private static void eightBytes() {
        SortMerge x = new SortMerge();
        x.sum(0, 8);
        Check.make(x, 127, 255, 255, 255, 255, 255, 255, 255);
        Check.make(x, 128, 0, 0, 0, 0, 0, 0, 0);
        Check.make(x, 0, 0, 0, 0, 0, 0, 0, 1);
        Check.release(x, 1, 2, 3);
        check.due("sort(true)", x.sort(true), 2);
        check.due("without sign", all(x), "1: 255 255 255 255 255 255 255 255; 3: 0 0 0 0 0 0 0 1; ");
    }

    private static void shortOnes() {
        SortMerge x = new SortMerge();
        x.key(0, 1, 0, false);
        x.sum(1, 2);
        Check.make(x, 1, 3);
        Check.make(x, 1, 0, 5);
        Check.make(x, 1);
        Check.release(x, 2, 1, 3, 2);
        check.due("sort(true)", x.sort(true), 1);
        check.due("a field beyond the end doesn't count", all(x), "2: 1 0 10; ");
        Check.release(x, 1, 2, 2);
        check.due("sort(true)", x.sort(true), 1);
        check.due("nor in the first one", all(x), "1: 1 3; ");
        check.due("count(7)", x.count(7), 2);
    }

    private static void onlyNeighbours() {
        SortMerge x = new SortMerge();
        x.key(0, 1, 0, false);
        Check.make(x, 1, 1);
        Check.make(x, 2, 1);
        Check.release(x, 1, 2, 1, 2);
        check.due("without sums", x.sort(true), 4);
        check.due("count(7)", x.count(7), 0);
        x.sum(1, 1);
        Check.release(x, 1, 2, 1, 2);
        check.due("with sums", x.sort(true), 2);
        check.due("sums", all(x), "1: 1 2; 2: 2 2; ");
    }

    /** The sum changes the key of the first one: those behind it are equal ones all the same. */
    private static void fieldInKey() {
        SortMerge x = new SortMerge();
        x.key(0, 1, 0, false);
        x.sum(0, 1);
        Check.make(x, 3);
        Check.make(x, 6);
        Check.release(x, 1, 1, 1, 2, 2);
        check.due("sort(true)", x.sort(true), 2);
        check.due("sums", all(x), "1: 9; 2: 12; ");
    }

    /** One field behind the other is added; the row is added only if no field overflows then. */
    private static void fieldsThatOverlap() {
        SortMerge x = new SortMerge();
        x.sum(0, 1);
        x.sum(0, 1);
        Check.make(x, 100);
        Check.make(x, 70);
        Check.release(x, 1, 2);
        check.due("100 + 70 + 70", x.sort(true), 1);
        check.due("sums", all(x), "1: 240; ");
        Check.release(x, 2, 1);
        check.due("70 + 100 + 100 overflows", x.sort(true), 2);
        check.due("sums", all(x), "2: 70; 1: 100; ");
    }
}
