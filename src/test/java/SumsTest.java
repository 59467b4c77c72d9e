/** Promise 8, and count 7: sums of equal ones. */
public final class SumsTest {
    private static final Check check = new Check();

    public static void main(String[] args) {
        adds();
        overflow();
        eightBytes();
        shortOnes();
        onlyNeighbours();
        fieldInKey();
        fieldsThatOverlap();
        overflowAtEachSize();
        overflowInAnyField();
        nextOnesGoToIt();
        endsAtTheField();
        shortOnesDontOverflow();
        lastByte();
        toldLater();
        check.end();
    }

    private static void adds() {
        SortMerge x = new SortMerge();
        x.key(0, 1, 0, false);
        x.sum(1, 2);
        x.sum(4, 1);
        Check.make(x, 1, 0, 200, 9, 1);
        Check.make(x, 1, 1, 100, 8, 2, 77);
        Check.make(x, 1, 0, 1, 7, 3);
        Check.make(x, 0, 0, 1, 7, 3);
        Check.release(x, 2, 1, 3, 4);
        check.due("sort(false)", x.sort(false), 2);
        check.due("count(7)", x.count(7), 2);
        check.due("the first one has the sum", Check.all(x), "4: 0 0 1 7 3; 1: 1 2 45 9 6; ");
        Check.release(x, 2, 1, 3, 4);
        check.due("sort(true)", x.sort(true), 2);
        check.due("records stay as they were", Check.all(x), "4: 0 0 1 7 3; 2: 1 2 45 8 6 77; ");
    }

    private static void overflow() {
        SortMerge x = new SortMerge();
        x.sum(0, 1);
        x.sum(1, 1);
        Check.make(x, 250, 1);
        Check.make(x, 5, 1);
        Check.make(x, 1, 1);
        Check.make(x, 2, 254);
        Check.make(x, 0, 1);
        Check.release(x, 1, 2, 3, 4, 5);
        check.due("sort(true)", x.sort(true), 3);
        check.due("255 fits, 256 stays by itself, and the next ones go to it",
                Check.all(x), "1: 255 2; 3: 3 255; 5: 0 1; ");
        check.due("count(7)", x.count(7), 2);
    }

    private static void eightBytes() {
        SortMerge x = new SortMerge();
        x.sum(0, 8);
        Check.make(x, 127, 255, 255, 255, 255, 255, 255, 255);
        Check.make(x, 128, 0, 0, 0, 0, 0, 0, 0);
        Check.make(x, 0, 0, 0, 0, 0, 0, 0, 1);
        Check.release(x, 1, 2, 3);
        check.due("sort(true)", x.sort(true), 2);
        check.due("without sign", Check.all(x), "1: 255 255 255 255 255 255 255 255; 3: 0 0 0 0 0 0 0 1; ");
    }

    private static void shortOnes() {
        SortMerge x = new SortMerge();
        x.key(0, 1, 0, false);
        x.sum(1, 2);
        Check.make(x, 1, 3);
        Check.make(x, 1, 0, 5);
        Check.make(x, 1);
        Check.release(x, 2, 1, 3, 2);
        check.due("sort(true)", x.sort(true), 1);
        check.due("a field beyond the end doesn't count", Check.all(x), "2: 1 0 10; ");
        Check.release(x, 1, 2, 2);
        check.due("sort(true)", x.sort(true), 1);
        check.due("nor in the first one", Check.all(x), "1: 1 3; ");
        check.due("count(7)", x.count(7), 2);
    }

    private static void onlyNeighbours() {
        SortMerge x = new SortMerge();
        x.key(0, 1, 0, false);
        Check.make(x, 1, 1);
        Check.make(x, 2, 1);
        Check.release(x, 1, 2, 1, 2);
        check.due("without sums", x.sort(true), 4);
        check.due("count(7)", x.count(7), 0);
        x.sum(1, 1);
        Check.release(x, 1, 2, 1, 2);
        check.due("with sums", x.sort(true), 2);
        check.due("sums", Check.all(x), "1: 1 2; 2: 2 2; ");
    }

    /** The sum changes the key of the first one: those behind it are equal ones all the same. */
    private static void fieldInKey() {
        SortMerge x = new SortMerge();
        x.key(0, 1, 0, false);
        x.sum(0, 1);
        Check.make(x, 3);
        Check.make(x, 6);
        Check.release(x, 1, 1, 1, 2, 2);
        check.due("sort(true)", x.sort(true), 2);
        check.due("sums", Check.all(x), "1: 9; 2: 12; ");
    }

    /** One field behind the other is added; the row is added only if no field overflows then. */
    private static void fieldsThatOverlap() {
        SortMerge x = new SortMerge();
        x.sum(0, 1);
        x.sum(0, 1);
        Check.make(x, 100);
        Check.make(x, 70);
        Check.release(x, 1, 2);
        check.due("100 + 70 + 70", x.sort(true), 1);
        check.due("sums", Check.all(x), "1: 240; ");
        Check.release(x, 2, 1);
        check.due("70 + 100 + 100 overflows", x.sort(true), 2);
        check.due("sums", Check.all(x), "2: 70; 1: 100; ");
    }

    /** The greatest number and 0 fit, the greatest number and 1 don't. */
    private static void overflowAtEachSize() {
        for (int size = 1; size <= 8; size++) {
            for (int from : new int[] {0, 32 - size}) {
                SortMerge x = new SortMerge();
                x.sum(from, size);
                int greatest = x.record();
                int zero = x.record();
                int one = x.record();
                int greatestButOne = x.record();
                for (int i = from; i < from + size; i++) {
                    boolean last = i == from + size - 1;
                    x.octet(greatest, i, 255);
                    x.octet(zero, i, 0);
                    x.octet(one, i, last ? 1 : 0);
                    x.octet(greatestButOne, i, last ? 254 : 255);
                }
                String what = "size " + size + " from " + from + ": ";
                Check.release(x, greatest, zero);
                check.due(what + "the greatest and 0", x.sort(true), 1);
                Check.release(x, greatest, one);
                check.due(what + "the greatest and 1", x.sort(true), 2);
                Check.release(x, one, greatest);
                check.due(what + "1 and the greatest", x.sort(true), 2);
                Check.release(x, greatest, greatest);
                check.due(what + "the greatest twice", x.sort(true), 2);
                Check.release(x, greatestButOne, one);
                check.due(what + "the greatest but one and 1", x.sort(true), 1);
                x.next();
                check.due(what + "the sum's first byte", x.value(from), 255);
                check.due(what + "the sum's last byte", x.value(from + size - 1), 255);
                check.due(what + "count(7)", x.count(7), 1);
            }
        }
    }

    /** One of four fields overflows: nothing of the record is added. */
    private static void overflowInAnyField() {
        for (int field = 0; field < 4; field++) {
            SortMerge x = new SortMerge();
            for (int n = 0; n < 4; n++) {
                x.sum(n, 1);
            }
            Check.make(x, 1, 2, 3, 4);
            Check.make(x, 5, 6, 7, 8);
            Check.make(x, 1, 1, 1, 1);
            x.octet(2, field, 255);
            Check.release(x, 1, 2);
            check.due("field " + field + ": sort(true)", x.sort(true), 2);
            check.due("field " + field + ": count(7)", x.count(7), 0);
            x.next();
            check.due("field " + field + ": the first one stays", Check.bytes(x), "1 2 3 4");
            Check.release(x, 1, 3);
            check.due("without overflow", x.sort(true), 1);
            check.due("all four", Check.all(x), "1: 2 3 4 5; ");
        }
    }

    private static void nextOnesGoToIt() {
        SortMerge x = new SortMerge();
        x.key(1, 1, 0, false);
        x.sum(0, 1);
        Check.make(x, 200, 7);
        Check.make(x, 100, 7);
        Check.make(x, 10, 7);
        Check.make(x, 10, 8);
        Check.release(x, 1, 2, 3, 3, 1, 3, 4, 4);
        check.due("sort(true)", x.sort(true), 4);
        check.due("each that overflows takes the next ones", Check.all(x), "1: 200 7; 2: 120 7; 1: 210 7; 4: 20 8; ");
        check.due("count(7)", x.count(7), 4);
        Check.release(x, 1, 1, 1);
        check.due("all overflow", x.sort(true), 3);
        check.due("count(7)", x.count(7), 0);
    }

    /** A field counts in a record that ends with it, and not in one that ends a byte ahead of its end. */
    private static void endsAtTheField() {
        SortMerge x = new SortMerge();
        x.sum(2, 3);
        Check.make(x, 1, 1, 0, 0, 1);
        Check.make(x, 1, 1, 0, 9);
        Check.make(x, 1, 1, 0, 0, 1, 7);
        Check.make(x);
        Check.release(x, 1, 2, 1, 3, 4);
        check.due("sort(true)", x.sort(true), 1);
        check.due("3 of them count", Check.all(x), "1: 1 1 0 0 3; ");
        check.due("all are added", x.count(7), 4);
        Check.release(x, 2, 1, 3);
        check.due("sort(true)", x.sort(true), 1);
        check.due("none counts in the first one", Check.all(x), "2: 1 1 0 9; ");
        Check.release(x, 4, 1);
        check.due("sort(true)", x.sort(true), 1);
        check.due("one without bytes stays so", Check.all(x), "4:; ");
    }

    private static void shortOnesDontOverflow() {
        SortMerge x = new SortMerge();
        x.sum(0, 1);
        x.sum(1, 2);
        Check.make(x, 1, 255, 255);
        Check.make(x, 2, 255);
        Check.make(x, 253);
        Check.release(x, 1, 2);
        check.due("sort(true)", x.sort(true), 1);
        check.due("the other field is added", Check.all(x), "1: 3 255 255; ");
        Check.release(x, 2, 1, 3);
        check.due("sort(true)", x.sort(true), 2);
        check.due("the other field overflows", Check.all(x), "2: 3 255; 3: 253; ");
    }

    private static void lastByte() {
        SortMerge x = new SortMerge();
        x.sum(31, 1);
        x.octet(x.record(), 31, 3);
        x.octet(x.record(), 30, 4);
        Check.release(x, 1, 2, 1);
        check.due("sort(true)", x.sort(true), 1);
        x.next();
        check.due("value(31)", x.value(31), 6);
        check.due("value(30)", x.value(30), 0);
    }

    /** Fields that are told behind what was released count in its sort. */
    private static void toldLater() {
        SortMerge x = new SortMerge();
        Check.make(x, 1, 1);
        Check.release(x, 1, 1, 1);
        x.sum(0, 1);
        check.due("sort(true)", x.sort(true), 1);
        x.sum(1, 1);
        x.next();
        check.due("what has come out stays", Check.bytes(x), "3 1");
        Check.release(x, 1, 1, 1);
        x.sort(true);
        check.due("both", Check.all(x), "1: 3 3; ");
    }
}
