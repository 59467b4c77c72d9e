/** Promises 4 and 17: keys told, and records compared by them. */
public final class KeysTest {
    private static final Check check = new Check();

    public static void main(String[] args) {
        refusals();
        allSizes();
        room();
        stages();
        text();
        behindTheEnd();
        binary();
        signedSizes();
        digits();
        digitByDigit();
        signOfDigits();
        several();
        eightKeys();
        without();
        noRecords();
        compareInAllStages();
        check.end();
    }

    private static void refusals() {
        SortMerge x = new SortMerge();
        int[][] wrong = {{0, 1, 4}, {0, 1, -1}, {-1, 1, 0}, {32, 1, 0}, {0, 0, 0}, {0, -1, 0}, {0, 33, 0},
            {1, 32, 0}, {31, 2, 0}, {0, 9, 1}, {0, 9, 2}, {0, 19, 3}, {25, 8, 1}, {15, 18, 3},
            {Integer.MAX_VALUE, Integer.MAX_VALUE, 0}, {1, Integer.MAX_VALUE, 0},
            {Integer.MIN_VALUE, 1, 0}, {0, 1, Integer.MIN_VALUE}, {0, 1, Integer.MAX_VALUE}};
        for (int[] w : wrong) {
            check.due("key(" + w[0] + ", " + w[1] + ", " + w[2] + ")", x.key(w[0], w[1], w[2], false), -4);
        }
        check.due("count(0)", x.count(0), 0);
    }

    private static void room() {
        SortMerge x = new SortMerge();
        check.due("key(0, 32, 0)", x.key(0, 32, 0, false), 1);
        check.due("key(31, 1, 0)", x.key(31, 1, 0, true), 2);
        check.due("key(24, 8, 1)", x.key(24, 8, 1, true), 3);
        check.due("key(24, 8, 2)", x.key(24, 8, 2, true), 4);
        check.due("key(14, 18, 3)", x.key(14, 18, 3, true), 5);
        check.due("key", x.key(0, 1, 0, false), 6);
        check.due("key", x.key(0, 1, 0, false), 7);
        check.due("key", x.key(0, 1, 0, false), 8);
        check.due("a ninth", x.key(0, 1, 0, false), SortMerge.NONE);
        check.due("outside ahead of no room", x.key(0, 0, 0, false), -4);
        check.due("count(0)", x.count(0), 8);
        x.begin();
        check.due("outside ahead of the stage", x.key(0, 0, 0, false), -4);
        check.due("the stage ahead of no room", x.key(0, 1, 0, false), -5);
    }

    private static void stages() {
        SortMerge x = new SortMerge();
        x.begin();
        check.due("key by input", x.key(0, 1, 0, false), -5);
        x.sort(true);
        check.due("key by output", x.key(0, 1, 0, false), -5);
        x.next();
        check.due("key when idle again", x.key(0, 1, 0, false), 1);
    }

    private static void text() {
        SortMerge x = new SortMerge();
        x.key(1, 3, 0, false);
        Check.make(x, 9, 1, 2, 3);
        Check.make(x, 0, 1, 2, 200);
        Check.make(x, 5, 1, 2);
        Check.make(x, 7, 1, 2, 0, 9);
        check.due("3 and 200: bytes have no sign", x.compare(1, 2), -1);
        check.due("the other way", x.compare(2, 1), 1);
        check.due("behind the end is 0", x.compare(3, 4), 0);
        check.due("behind the end is less than 3", x.compare(3, 1), -1);
        check.due("with itself", x.compare(2, 2), 0);
    }

    private static void binary() {
        SortMerge plain = eightBytes(1, false);
        check.due("without sign: 0x80.. and 0x7f..", plain.compare(1, 2), 1);
        check.due("without sign: all 255 and 1", plain.compare(3, 4), 1);
        SortMerge signed = eightBytes(2, false);
        check.due("with sign: least and greatest", signed.compare(1, 2), -1);
        check.due("with sign: -1 and 1", signed.compare(3, 4), -1);
        check.due("with sign: least and -1", signed.compare(1, 3), -1);
        SortMerge down = eightBytes(2, true);
        check.due("down: least and greatest", down.compare(1, 2), 1);
        SortMerge x = new SortMerge();
        x.key(0, 2, 2, false);
        Check.make(x, 255, 254, 99);
        Check.make(x, 255, 255);
        Check.make(x, 255);
        Check.make(x, 0, 1);
        Check.make(x, 128);
        check.due("-2 and -1", x.compare(1, 2), -1);
        check.due("-256 and -2", x.compare(3, 1), -1);
        check.due("-1 and 1", x.compare(2, 4), -1);
        check.due("-32768 and -256", x.compare(5, 3), -1);
        Check.make(x, 1, 0);
        Check.make(x, 0, 255);
        check.due("256 and 255", x.compare(6, 7), 1);
    }

    private static SortMerge eightBytes(int usage, boolean down) {
        SortMerge x = new SortMerge();
        x.key(0, 8, usage, down);
        Check.make(x, 128);
        Check.make(x, 127, 255, 255, 255, 255, 255, 255, 255);
        Check.make(x, 255, 255, 255, 255, 255, 255, 255, 255);
        Check.make(x, 0, 0, 0, 0, 0, 0, 0, 1);
        return x;
    }

    private static void digits() {
        SortMerge x = new SortMerge();
        x.key(0, 2, 3, false);
        int plus12 = Check.make(x, '1', '2');
        int minus12 = Check.make(x, '1', 0x70 + 2);
        int minus13 = Check.make(x, '1', 64 + 3);
        int zero = Check.make(x);
        int minusZero = Check.make(x, 0, 64);
        int fourteenIsFour = Check.make(x, 0x0e, 0x0f);
        int plus45 = Check.make(x, 4, 5);
        int highFirst = Check.make(x, 64 + 1, 2);
        check.due("-12 and 12", x.compare(minus12, plus12), -1);
        check.due("-13 and -12", x.compare(minus13, minus12), -1);
        check.due("10 and 9", x.compare(Check.make(x, 1, 0), Check.make(x, 0, 9)), 1);
        check.due("-0 and 0", x.compare(minusZero, zero), 0);
        check.due("14, 15 count as 4, 5", x.compare(fourteenIsFour, plus45), 0);
        check.due("64 in the first one is no sign", x.compare(highFirst, plus12), 0);
        SortMerge wide = new SortMerge();
        wide.key(0, 18, 3, true);
        Check.make(wide, 9, 9, 9, 9, 9, 9, 9, 9, 9, 9, 9, 9, 9, 9, 9, 9, 9, 9);
        Check.make(wide, 9, 9, 9, 9, 9, 9, 9, 9, 9, 9, 9, 9, 9, 9, 9, 9, 9, 8);
        Check.make(wide, 9, 9, 9, 9, 9, 9, 9, 9, 9, 9, 9, 9, 9, 9, 9, 9, 9, 73);
        check.due("18 digits down", wide.compare(1, 2), -1);
        check.due("18 digits down, negative", wide.compare(3, 2), 1);
    }

    private static void several() {
        SortMerge x = new SortMerge();
        x.key(1, 1, 0, true);
        x.key(0, 1, 0, false);
        Check.make(x, 1, 5);
        Check.make(x, 2, 5);
        Check.make(x, 0, 4);
        check.due("the first one is equal, the second counts", x.compare(1, 2), -1);
        check.due("the first one counts, down", x.compare(3, 1), 1);
    }

    private static void without() {
        SortMerge x = new SortMerge();
        Check.make(x, 1);
        Check.make(x, 2);
        Check.make(x);
        check.due("without keys all are equal", x.compare(1, 2), 0);
        check.due("without keys and bytes", x.compare(3, 2), 0);
        x.key(0, 1, 4, false);
        x.key(0, 33, 0, false);
        check.due("what is refused is no key", x.compare(1, 2), 0);
    }

    private static void noRecords() {
        SortMerge x = new SortMerge();
        dueNone(x, 1, 1);
        dueNone(x, 0, 0);
        x.record();
        x.record();
        for (int none : new int[] {0, 3, -1, 400, 401, Integer.MIN_VALUE, Integer.MAX_VALUE}) {
            dueNone(x, none, 1);
            dueNone(x, 2, none);
            dueNone(x, none, none);
        }
        check.due("the last one is one", x.compare(2, 1), 0);
    }

    private static void dueNone(SortMerge x, int a, int b) {
        check.dueThrow("compare(" + a + ", " + b + ")", IllegalArgumentException.class, () -> x.compare(a, b));
    }

    private static void compareInAllStages() {
        SortMerge x = new SortMerge();
        x.key(0, 1, 0, false);
        Check.make(x, 1);
        Check.make(x, 2);
        check.due("when idle", x.compare(1, 2), -1);
        x.begin();
        check.due("by input", x.compare(2, 1), 1);
        dueNone(x, 3, 1);
        x.release(1);
        x.sort(true);
        x.next();
        check.due("by output", x.compare(1, 2), -1);
        dueNone(x, 1, 0);
        x.octet(1, 0, 3);
        check.due("as they are now", x.compare(1, 2), 1);
    }

    /** By input a key that is not outside is refused by the stage, so that one object answers for all. */
    private static void allSizes() {
        int[] most = {32, 8, 8, 18};
        for (int usage = 0; usage <= 3; usage++) {
            for (int from = -1; from <= 33; from++) {
                SortMerge x = new SortMerge();
                x.begin();
                for (int size = -1; size <= 34; size++) {
                    boolean right = from >= 0 && from <= 31 && size >= 1 && size <= most[usage] && from + size <= 32;
                    check.due("key(" + from + ", " + size + ", " + usage + ")", x.key(from, size, usage, false),
                            right ? -5 : -4);
                }
            }
        }
    }

    /** A byte behind the end counts as 0, whatever the usage. */
    private static void behindTheEnd() {
        for (int usage = 0; usage <= 3; usage++) {
            SortMerge x = new SortMerge();
            x.key(1, 2, usage, false);
            int[] rows = {Check.make(x), Check.make(x, 9), Check.make(x, 8, 0), Check.make(x, 7, 0, 0),
                Check.make(x, 6, 0, 0, 99)};
            int one = Check.make(x, 5, 1);
            int oneAndNone = Check.make(x, 4, 1, 0);
            for (int row : rows) {
                check.due("usage " + usage + ": 0 and 0 of " + row, x.compare(1, row), 0);
                check.due("usage " + usage + ": 0 and more", x.compare(row, one), -1);
            }
            check.due("usage " + usage + ": one that ends within the key", x.compare(one, oneAndNone), 0);
            SortMerge last = new SortMerge();
            last.key(31, 1, usage, false);
            last.octet(last.record(), 30, 5);
            last.octet(last.record(), 31, 0);
            last.octet(last.record(), 31, 1);
            check.due("usage " + usage + ": byte 31 behind the end", last.compare(1, 2), 0);
            check.due("usage " + usage + ": byte 31", last.compare(1, 3), -1);
        }
    }

    /** For each size: the least number, -1, 0, 1 and the greatest one, up and down, with and without sign. */
    private static void signedSizes() {
        for (int size = 1; size <= 8; size++) {
            for (int from : new int[] {0, 32 - size}) {
                SortMerge signed = new SortMerge();
                signed.key(from, size, 2, false);
                SortMerge down = new SortMerge();
                down.key(from, size, 2, true);
                SortMerge plain = new SortMerge();
                plain.key(from, size, 1, false);
                int[][] ends = {{128, 0, 0}, {255, 255, 255}, {0, 0, 0}, {0, 0, 1}, {127, 255, 255}};
                int[] ofPlain = {4, 5, 1, 2, 3};
                for (int[] e : ends) {
                    put(signed, from, size, e);
                    put(down, from, size, e);
                    put(plain, from, size, e);
                }
                for (int a = 1; a <= 5; a++) {
                    for (int b = 1; b <= 5; b++) {
                        String what = "size " + size + " from " + from + ": " + a + " and " + b;
                        check.due("with sign, " + what, signed.compare(a, b), Integer.compare(a, b));
                        check.due("down, " + what, down.compare(a, b), Integer.compare(b, a));
                        check.due("without sign, " + what, plain.compare(a, b),
                                Integer.compare(ofPlain[a - 1], ofPlain[b - 1]));
                    }
                }
            }
        }
    }

    /** A record with a first byte, bytes between and a last byte; of one byte only the telling one. */
    private static void put(SortMerge x, int from, int size, int[] e) {
        int record = x.record();
        for (int i = 0; i < size; i++) {
            x.octet(record, from + i, i == 0 ? (size == 1 ? e[0] | e[2] & 1 : e[0]) : i == size - 1 ? e[2] : e[1]);
        }
    }

    /** Lowest four bits, modulo 10: of all 256 bytes at the first of two places. */
    private static void digitByDigit() {
        for (int low = 0; low < 256; low += 64) {
            SortMerge x = new SortMerge();
            x.key(0, 2, 3, false);
            for (int digit = 0; digit < 10; digit++) {
                Check.make(x, digit, 5);
            }
            for (int b = low; b < low + 64; b++) {
                int digit = (b & 15) % 10;
                int record = Check.make(x, b, 5);
                check.due("digit " + b, x.compare(record, digit + 1), 0);
                check.due("digit " + b + " and the next one", x.compare(record, (digit + 1) % 10 + 1), digit == 9 ? 1 : -1);
            }
        }
    }

    /** Negative if the last one has 64: of all 256 bytes, in keys of one digit. */
    private static void signOfDigits() {
        for (int low = 0; low < 256; low += 64) {
            SortMerge x = new SortMerge();
            x.key(3, 1, 3, false);
            Check.make(x, 0, 0, 0, 0);
            for (int b = low; b < low + 64; b++) {
                int digit = (b & 15) % 10;
                int sign = digit == 0 ? 0 : (b & 64) != 0 ? -1 : 1;
                check.due("digit " + b + " and 0", x.compare(Check.make(x, 64, 64, 64, b), 1), sign);
            }
        }
    }

    /** The eighth key counts too, and only where the seven ahead of it are equal. */
    private static void eightKeys() {
        SortMerge x = new SortMerge();
        for (int n = 0; n < 8; n++) {
            x.key(n, 1, n % 4, n % 2 == 1);
        }
        check.due("a ninth", x.key(8, 1, 0, false), SortMerge.NONE);
        Check.make(x, 1, 1, 1, 1, 1, 1, 1, 1, 1);
        Check.make(x, 1, 1, 1, 1, 1, 1, 1, 2, 1);
        Check.make(x, 1, 1, 1, 1, 1, 1, 2, 9, 1);
        Check.make(x, 2, 9, 9, 9, 9, 9, 9, 1, 1);
        Check.make(x, 1, 1, 1, 1, 1, 1, 1, 1, 2);
        check.due("the eighth, down", x.compare(1, 2), 1);
        check.due("the seventh", x.compare(1, 3), -1);
        check.due("the first", x.compare(4, 3), 1);
        check.due("a ninth doesn't count", x.compare(1, 5), 0);
    }
}
