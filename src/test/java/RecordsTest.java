/** Promises 5 and 6: records and their bytes. */
public final class RecordsTest {
    private static final Check check = new Check();
    private static final int MIN = Integer.MIN_VALUE;
    private static final int MAX = Integer.MAX_VALUE;

    public static void main(String[] args) {
        room();
        withoutBytes();
        noSuchRecord();
        outside();
        lowestEightBits();
        behindTheEnd();
        inAllStages();
        check.end();
    }

    private static String bytesOf(SortMerge x, int record) {
        Check.release(x, record);
        x.sort(true);
        x.next();
        String bytes = Check.bytes(x);
        x.next();
        return bytes;
    }

    private static void room() {
        SortMerge x = new SortMerge();
        for (int n = 1; n <= 400; n++) {
            check.due("record()", x.record(), n);
        }
        check.due("record() the 401st", x.record(), SortMerge.NONE);
        check.due("record() once more", x.record(), SortMerge.NONE);
        check.due("count(1)", x.count(1), 400);
        check.due("octet(400, 31, 7)", x.octet(400, 31, 7), 32);
        check.due("octet(401, 0, 7)", x.octet(401, 0, 7), -2);
        check.due("merge(0, 400)", x.merge(0, 400), 1);
        check.due("merge(0, 401)", x.merge(0, 401), -2);
        check.due("compare(1, 400)", x.compare(1, 400), 0);
        x.begin();
        check.due("release(400)", x.release(400), 1);
        check.due("release(401)", x.release(401), -2);
        x.sort(true);
        check.due("next()", x.next(), 400);
        check.due("value(31)", x.value(31), 7);
    }

    private static void withoutBytes() {
        SortMerge x = new SortMerge();
        check.due("record()", x.record(), 1);
        x.octet(1, 4, 1);
        check.due("record()", x.record(), 2);
        check.due("a new record without bytes", bytesOf(x, 2), "");
        check.due("octet(2, 0, 0): its first byte", x.octet(2, 0, 0), 1);
        check.due("bytes", bytesOf(x, 2), "0");
    }

    private static void noSuchRecord() {
        SortMerge x = new SortMerge();
        check.due("octet(1, 0, 0) of none", x.octet(1, 0, 0), -2);
        x.record();
        x.record();
        for (int none : new int[] {0, 3, -1, -2, 400, 401, MIN, MAX}) {
            check.due("octet(" + none + ", 0, 0)", x.octet(none, 0, 0), -2);
            check.due("no such record comes first: octet(" + none + ", 32, 0)", x.octet(none, 32, 0), -2);
            check.due("no such record comes first: octet(" + none + ", -1, 0)", x.octet(none, -1, 0), -2);
        }
        check.due("octet(2, 0, 0)", x.octet(2, 0, 0), 1);
        check.due("bytes of the other one", bytesOf(x, 1), "");
    }

    private static void outside() {
        SortMerge x = new SortMerge();
        x.record();
        for (int i : new int[] {-1, 32, MIN, MAX}) {
            check.due("octet(1, " + i + ", 5)", x.octet(1, i, 5), -4);
        }
        check.due("what is refused leaves it without bytes", bytesOf(x, 1), "");
        check.due("octet(1, 0, 5)", x.octet(1, 0, 5), 1);
        check.due("octet(1, 31, 6)", x.octet(1, 31, 6), 32);
        x.octet(1, 32, 7);
        x.octet(1, -1, 8);
        Check.release(x, 1);
        x.sort(true);
        x.next();
        check.due("value(0)", x.value(0), 5);
        check.due("value(30)", x.value(30), 0);
        check.due("value(31)", x.value(31), 6);
        check.due("value(32)", x.value(32), SortMerge.NONE);
    }

    private static void lowestEightBits() {
        SortMerge x = new SortMerge();
        x.record();
        int[] given = {255, 256, 257, 511, -1, -256, -255, 128, MIN, MAX, 65535};
        for (int i = 0; i < given.length; i++) {
            check.due("octet(1, " + i + ", " + given[i] + ")", x.octet(1, i, given[i]), i + 1);
        }
        check.due("its lowest 8 bits", bytesOf(x, 1), "255 0 1 255 255 0 1 128 0 255 255");
    }

    private static void behindTheEnd() {
        SortMerge x = new SortMerge();
        x.record();
        check.due("octet(1, 3, 9): behind the end", x.octet(1, 3, 9), 4);
        check.due("bytes between are 0", bytesOf(x, 1), "0 0 0 9");
        check.due("octet(1, 1, 8): within, its length stays", x.octet(1, 1, 8), 4);
        check.due("octet(1, 3, 7): the last one", x.octet(1, 3, 7), 4);
        check.due("octet(1, 4, 6): the next one", x.octet(1, 4, 6), 5);
        check.due("octet(1, 6, 0): 0 is a byte too", x.octet(1, 6, 0), 7);
        check.due("bytes", bytesOf(x, 1), "0 8 0 7 6 0 0");
    }

    /** These promises name no stage, so that none refuses. */
    private static void inAllStages() {
        SortMerge x = new SortMerge();
        check.due("record() when idle", x.record(), 1);
        check.due("octet(1, 0, 1) when idle", x.octet(1, 0, 1), 1);
        x.begin();
        check.due("record() by input", x.record(), 2);
        check.due("octet(2, 0, 1) by input", x.octet(2, 0, 1), 1);
        x.sort(true);
        check.due("record() by output", x.record(), 3);
        check.due("octet(3, 0, 1) by output", x.octet(3, 0, 1), 1);
    }
}
