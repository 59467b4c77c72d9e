/** Promises 4 and 17: keys told, and records compared by them. */
public final class KeysTest {
    private static final Check check = new Check();

    public static void main(String[] args) {
        refusals();
        room();
        stages();
        text();
        binary();
        digits();
        several();
        none();
        check.end();
    }

    private static void refusals() {
        SortMerge x = new SortMerge();
        int[][] wrong = {{0, 1, 4}, {0, 1, -1}, {-1, 1, 0}, {32, 1, 0}, {0, 0, 0}, {0, -1, 0}, {0, 33, 0},
            {1, 32, 0}, {31, 2, 0}, {0, 9, 1}, {0, 9, 2}, {0, 19, 3}, {25, 8, 1}, {15, 18, 3},
            {Integer.MAX_VALUE, Integer.MAX_VALUE, 0}, {1, Integer.MAX_VALUE, 0},
            {Integer.MIN_VALUE, 1, 0}, {0, 1, Integer.MIN_VALUE}, {0, 1, Integer.MAX_VALUE}};
        for (int[] w : wrong) {
            check.due("key(" + w[0] + ", " + w[1] + ", " + w[2] + ")", x.key(w[0], w[1], w[2], false), -4);
        }
        check.due("count(0)", x.count(0), 0);
    }

    private static void room() {
        SortMerge x = new SortMerge();
        check.due("key(0, 32, 0)", x.key(0, 32, 0, false), 1);
        check.due("key(31, 1, 0)", x.key(31, 1, 0, true), 2);
        check.due("key(24, 8, 1)", x.key(24, 8, 1, true), 3);
        check.due("key(24, 8, 2)", x.key(24, 8, 2, true), 4);
        check.due("key(14, 18, 3)", x.key(14, 18, 3, true), 5);
        check.due("key", x.key(0, 1, 0, false), 6);
        check.due("key", x.key(0, 1, 0, false), 7);
        check.due("key", x.key(0, 1, 0, false), 8);
        check.due("a ninth", x.key(0, 1, 0, false), SortMerge.NONE);
        check.due("outside ahead of no room", x.key(0, 0, 0, false), -4);
        check.due("count(0)", x.count(0), 8);
        x.begin();
        check.due("outside ahead of the stage", x.key(0, 0, 0, false), -4);
        check.due("the stage ahead of no room", x.key(0, 1, 0, false), -5);
    }

    private static void stages() {
        SortMerge x = new SortMerge();
        x.begin();
        check.due("key by input", x.key(0, 1, 0, false), -5);
        x.sort(true);
        check.due("key by output", x.key(0, 1, 0, false), -5);
        x.next();
        check.due("key when idle again", x.key(0, 1, 0, false), 1);
    }

    private static void text() {
        SortMerge x = new SortMerge();
        x.key(1, 3, 0, false);
        Check.make(x, 9, 1, 2, 3);
        Check.make(x, 0, 1, 2, 200);
        Check.make(x, 5, 1, 2);
        Check.make(x, 7, 1, 2, 0, 9);
        check.due("3 and 200: bytes have no sign", x.compare(1, 2), -1);
        check.due("the other way", x.compare(2, 1), 1);
        check.due("behind the end is 0", x.compare(3, 4), 0);
        check.due("behind the end is less than 3", x.compare(3, 1), -1);
        check.due("with itself", x.compare(2, 2), 0);
    }

    private static void binary() {
        SortMerge plain = eightBytes(1, false);
        check.due("without sign: 0x80.. and 0x7f..", plain.compare(1, 2), 1);
        check.due("without sign: all 255 and 1", plain.compare(3, 4), 1);
        SortMerge signed = eightBytes(2, false);
        check.due("with sign: least and greatest", signed.compare(1, 2), -1);
        check.due("with sign: -1 and 1", signed.compare(3, 4), -1);
        check.due("with sign: least and -1", signed.compare(1, 3), -1);
        SortMerge down = eightBytes(2, true);
        check.due("down: least and greatest", down.compare(1, 2), 1);
        SortMerge x = new SortMerge();
        x.key(0, 2, 2, false);
        Check.make(x, 255, 254, 99);
        Check.make(x, 255, 255);
        Check.make(x, 255);
        Check.make(x, 0, 1);
        Check.make(x, 128);
        check.due("-2 and -1", x.compare(1, 2), -1);
        check.due("-256 and -2", x.compare(3, 1), -1);
        check.due("-1 and 1", x.compare(2, 4), -1);
        check.due("-32768 and -256", x.compare(5, 3), -1);
        Check.make(x, 1, 0);
        Check.make(x, 0, 255);
        check.due("256 and 255", x.compare(6, 7), 1);
    }

    private static SortMerge eightBytes(int usage, boolean down) {
        SortMerge x = new SortMerge();
        x.key(0, 8, usage, down);
        Check.make(x, 128);
        Check.make(x, 127, 255, 255, 255, 255, 255, 255, 255);
        Check.make(x, 255, 255, 255, 255, 255, 255, 255, 255);
        Check.make(x, 0, 0, 0, 0, 0, 0, 0, 1);
        return x;
    }

    private static void digits() {
        SortMerge x = new SortMerge();
        x.key(0, 2, 3, false);
        int plus12 = Check.make(x, '1', '2');
        int minus12 = Check.make(x, '1', 0x70 + 2);
        int minus13 = Check.make(x, '1', 64 + 3);
        int zero = Check.make(x);
        int minusZero = Check.make(x, 0, 64);
        int fourteenIsFour = Check.make(x, 0x0e, 0x0f);
        int plus45 = Check.make(x, 4, 5);
        int highFirst = Check.make(x, 64 + 1, 2);
        check.due("-12 and 12", x.compare(minus12, plus12), -1);
        check.due("-13 and -12", x.compare(minus13, minus12), -1);
        check.due("10 and 9", x.compare(Check.make(x, 1, 0), Check.make(x, 0, 9)), 1);
        check.due("-0 and 0", x.compare(minusZero, zero), 0);
        check.due("14, 15 count as 4, 5", x.compare(fourteenIsFour, plus45), 0);
        check.due("64 in the first one is no sign", x.compare(highFirst, plus12), 0);
        SortMerge wide = new SortMerge();
        wide.key(0, 18, 3, true);
        Check.make(wide, 9, 9, 9, 9, 9, 9, 9, 9, 9, 9, 9, 9, 9, 9, 9, 9, 9, 9);
        Check.make(wide, 9, 9, 9, 9, 9, 9, 9, 9, 9, 9, 9, 9, 9, 9, 9, 9, 9, 8);
        Check.make(wide, 9, 9, 9, 9, 9, 9, 9, 9, 9, 9, 9, 9, 9, 9, 9, 9, 9, 73);
        check.due("18 digits down", wide.compare(1, 2), -1);
        check.due("18 digits down, negative", wide.compare(3, 2), 1);
    }

    private static void several() {
        SortMerge x = new SortMerge();
        x.key(1, 1, 0, true);
        x.key(0, 1, 0, false);
        Check.make(x, 1, 5);
        Check.make(x, 2, 5);
        Check.make(x, 0, 4);
        check.due("the first one is equal, the second counts", x.compare(1, 2), -1);
        check.due("the first one counts, down", x.compare(3, 1), 1);
    }

    private static void none() {
        SortMerge x = new SortMerge();
        check.dueThrow("compare(1, 1)", IllegalArgumentException.class, () -> x.compare(1, 1));
        Check.make(x, 1);
        Check.make(x, 2);
        check.due("without keys", x.compare(1, 2), 0);
        check.dueThrow("compare(0, 1)", IllegalArgumentException.class, () -> x.compare(0, 1));
        check.dueThrow("compare(1, 3)", IllegalArgumentException.class, () -> x.compare(1, 3));
        check.dueThrow("compare(-1, 1)", IllegalArgumentException.class, () -> x.compare(-1, 1));
        check.dueThrow("compare(1, min)", IllegalArgumentException.class, () -> x.compare(1, Integer.MIN_VALUE));
        check.dueThrow("compare(max, 1)", IllegalArgumentException.class, () -> x.compare(Integer.MAX_VALUE, 1));
    }
}
