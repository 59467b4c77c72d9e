/** Promises 5 and 6: records and their bytes. */
public final class RecordsTest {
    public static void main(String[] args) {
        Check check = new Check();
        SortMerge x = new SortMerge();
        check.due("octet of none", x.octet(1, 0, 0), -2);
        check.due("no such record ahead of outside", x.octet(1, 32, 0), -2);
        check.due("record()", x.record(), 1);
        check.due("octet(0, ..)", x.octet(0, 0, 0), -2);
        check.due("octet(2, ..)", x.octet(2, 0, 0), -2);
        check.due("octet(min, ..)", x.octet(Integer.MIN_VALUE, 0, 0), -2);
        check.due("octet(1, -1, ..)", x.octet(1, -1, 0), -4);
        check.due("octet(1, 32, ..)", x.octet(1, 32, 0), -4);
        check.due("octet(1, max, ..)", x.octet(1, Integer.MAX_VALUE, 0), -4);
        check.due("octet(1, 3, 511)", x.octet(1, 3, 511), 4);
        check.due("octet(1, 1, -1)", x.octet(1, 1, -1), 4);
        check.due("octet(1, 5, 256)", x.octet(1, 5, 256), 6);
        check.due("record()", x.record(), 2);
        check.due("octet(2, 31, 1)", x.octet(2, 31, 1), 32);
        Check.release(x, 1, 2);
        x.sort(true);
        x.next();
        check.due("lowest 8 bits, bytes between are 0", Check.bytes(x), "0 255 0 255 0 0");
        x.next();
        check.due("value(30)", x.value(30), 0);
        check.due("value(31)", x.value(31), 1);
        check.due("value(32)", x.value(32), SortMerge.NONE);
        room(check);
        check.end();
    }

    private static void room(Check check) {
        SortMerge x = new SortMerge();
        for (int n = 1; n <= 400; n++) {
            check.due("record()", x.record(), n);
        }
        check.due("record() the 401st", x.record(), SortMerge.NONE);
        check.due("count(1)", x.count(1), 400);
        check.due("octet(400, 0, 7)", x.octet(400, 0, 7), 1);
        check.due("octet(401, 0, 7)", x.octet(401, 0, 7), -2);
    }
}
