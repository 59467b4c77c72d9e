/**
 * Sorting and merging of records as a business language does it; README.md tells how to use it.
 *
 * All rows are made by the constructor and used again by every call, so that a call makes no
 * object but the exception that it throws.
 */
public final class SortMerge {
    public static final int NONE = -1;

    private static final int NO_RECORD = -2;
    private static final int OUTSIDE = -4;
    private static final int WRONG_STAGE = -5;
    private static final int OUT_OF_ORDER = -10;

    private static final int IDLE = 0;
    private static final int INPUT = 1;
    private static final int OUTPUT = 2;

    private static final int KEEP = 0;
    private static final int DROP = 1;
    private static final int FAIL = 2;

    private static final int ROW_BYTES = 32;
    private static final int MOST_RECORDS = 400;
    private static final int MOST_RELEASED = 1000;
    private static final int MOST_AREA = 1000;
    private static final int LEAST_WAYS = 2;
    private static final int MOST_WAYS = 16;
    private static final int MOST_KEYS = 8;
    private static final int MOST_SUMS = 4;
    private static final int MOST_FAILS_AT = 1000;
    private static final int INPUTS = 8;
    private static final int MOST_IN_INPUT = 200;
    /** All inputs together have more rows than a sort may have. */
    private static final int MOST_ROWS = INPUTS * MOST_IN_INPUT;

    private final Rows records;
    private final Rows copies;
    private final Keys keys;
    private final Line line;
    private final Condition condition;
    private final Sums sums;
    private final Exit inputExit;
    private final Exit outputExit;
    private final Inputs inputs;
    private final int[] released;
    private int releasedHeld;
    private int areaRows;
    private int waysAtOnce;
    private int stage;
    private int taken;
    private int hand;
    private int failedRecord;
    private Tally latest;
    /** A sort counts here, and it becomes the latest one only if no exit fails. */
    private Tally fresh;

    public SortMerge() {
        Rows rows = new Rows(MOST_ROWS);
        Keys told = new Keys();
        records = new Rows(MOST_RECORDS);
        copies = rows;
        keys = told;
        line = new Line(rows, told);
        condition = new Condition();
        sums = new Sums();
        inputExit = new Exit();
        outputExit = new Exit();
        inputs = new Inputs();
        released = new int[MOST_RELEASED];
        areaRows = 8;
        waysAtOnce = 2;
        stage = IDLE;
        hand = NONE;
        latest = new Tally();
        fresh = new Tally();
    }

    public int area(int rows) throws NegativeArraySizeException {
        if (rows < 0) {
            throw new NegativeArraySizeException("a work area has no rows below 0");
        }
        if (rows == 0 || rows > MOST_AREA) {
            return OUTSIDE;
        }
        areaRows = rows;
        return 1;
    }

    public int ways(int n) {
        if (n < LEAST_WAYS || n > MOST_WAYS) {
            return OUTSIDE;
        }
        int before = waysAtOnce;
        waysAtOnce = n;
        return before;
    }

    public int key(int from, int size, int usage, boolean down) {
        if (!Keys.allows(from, size, usage)) {
            return OUTSIDE;
        }
        if (stage != IDLE) {
            return WRONG_STAGE;
        }
        return keys.tell(from, size, usage, down);
    }

    public int record() {
        int row = records.add(records.held() + 1);
        return row == NONE ? NONE : records.numberOf(row);
    }

    public int octet(int record, int i, int b) {
        if (!isRecord(record)) {
            return NO_RECORD;
        }
        if (i < 0 || i >= ROW_BYTES) {
            return OUTSIDE;
        }
        records.put(record - 1, i, b & 255);
        return records.lengthOf(record - 1);
    }

    public int include(int i, int op, int b) {
        if (i < 0 || i >= ROW_BYTES || op < 0 || op > Condition.ALWAYS || b < 0 || b > 255) {
            return OUTSIDE;
        }
        condition.tell(i, op, b);
        return 1;
    }

    public int sum(int from, int size) {
        if (!isField(from, size, Sums.MOST_SIZE)) {
            return OUTSIDE;
        }
        return sums.tell(from, size);
    }

    public int exit(int kind, int does, int failsAt) {
        if (kind < 0 || kind > 1 || does < 0 || does > Exit.DROPS_EMPTY
                || failsAt < 0 || failsAt > MOST_FAILS_AT) {
            return OUTSIDE;
        }
        Exit told = kind == 0 ? inputExit : outputExit;
        told.tell(does, failsAt);
        return 1;
    }

    public int begin() {
        if (stage == INPUT) {
            return WRONG_STAGE;
        }
        stage = INPUT;
        releasedHeld = 0;
        hand = NONE;
        return 1;
    }

    public int release(int record) {
        if (!isRecord(record)) {
            return NO_RECORD;
        }
        if (stage != INPUT) {
            return WRONG_STAGE;
        }
        if (releasedHeld >= released.length) {
            return NONE;
        }
        released[releasedHeld] = record;
        releasedHeld++;
        return releasedHeld;
    }

    public int sort(boolean stable) throws IllegalStateException {
        if (stage != INPUT) {
            return WRONG_STAGE;
        }
        fresh.clear();
        int stopped = takeIn();
        if (stopped == NONE) {
            line.orderBy(stable);
            fresh.runs = line.makeRuns(areaRows);
            fresh.passes = line.mergeRuns(waysAtOnce);
            addEqualOnes();
            stopped = passOut();
        }
        if (stopped != NONE) {
            failedRecord = stopped;
            throw new IllegalStateException("an exit failed");
        }
        Tally old = latest;
        latest = fresh;
        fresh = old;
        releasedHeld = 0;
        return beginOutput();
    }

    public int next() {
        if (stage != OUTPUT) {
            return WRONG_STAGE;
        }
        if (taken >= line.held()) {
            hand = NONE;
            stage = IDLE;
            return 0;
        }
        hand = line.at(taken);
        taken++;
        return copies.numberOf(hand);
    }

    public int value(int i) {
        if (hand == NONE || i < 0 || i >= copies.lengthOf(hand)) {
            return NONE;
        }
        return copies.byteAt(hand, i);
    }

    public int merge(int input, int record) {
        if (!isRecord(record)) {
            return NO_RECORD;
        }
        if (input < 0 || input >= INPUTS) {
            return OUTSIDE;
        }
        return inputs.add(input, record);
    }

    public int mergeAll() {
        if (stage == INPUT) {
            return WRONG_STAGE;
        }
        int wrong = inputs.firstOutOfOrder(records, keys);
        if (wrong != NONE) {
            return OUT_OF_ORDER - wrong;
        }
        copyInputs();
        line.orderBy(true);
        line.mergeRuns(INPUTS);
        inputs.clear();
        return beginOutput();
    }

    public int compare(int a, int b) throws IllegalArgumentException {
        if (!isRecord(a) || !isRecord(b)) {
            throw new IllegalArgumentException("no such record");
        }
        return keys.order(records, a - 1, b - 1);
    }

    public int failed() {
        return failedRecord;
    }

    public int count(int what) {
        switch (what) {
            case 0: return keys.told();
            case 1: return records.held();
            case 2: return stage;
            case 3: return releasedHeld;
            case 4: return latest.runs;
            case 5: return latest.passes;
            case 6: return latest.droppedIn;
            case 7: return latest.added;
            case 8: return latest.droppedOut;
            case 9: return inputs.all();
            default: return NONE;
        }
    }

    private boolean isRecord(int number) {
        return number >= 1 && number <= records.held();
    }

    private static boolean isField(int from, int size, int mostSize) {
        return from >= 0 && from < ROW_BYTES
                && size >= 1 && size <= mostSize && size <= ROW_BYTES - from;
    }

    /** Copies what was released; the record at which the input exit fails, or NONE. */
    private int takeIn() {
        copies.clear();
        line.clear();
        inputExit.restart();
        for (int i = 0; i < releasedHeld; i++) {
            int record = released[i] - 1;
            if (!condition.letsThrough(records, record)) {
                fresh.droppedIn++;
                continue;
            }
            // The exit works on the copy: the record itself stays as it was told.
            int copy = copies.addCopy(records, record);
            int answer = inputExit.meet(copies, copy);
            if (answer == FAIL) {
                return released[i];
            }
            if (answer == DROP) {
                copies.removeLast();
                fresh.droppedIn++;
            } else {
                line.append(copy);
            }
        }
        return NONE;
    }

    /**
     * Each row is compared with the one that stood ahead of it, never with the sum: that row has
     * its own bytes still, even where a field of sums lies in a key.
     */
    private void addEqualOnes() {
        if (sums.told() == 0 || line.held() == 0) {
            return;
        }
        int first = line.at(0);
        int previous = first;
        int kept = 1;
        for (int i = 1; i < line.held(); i++) {
            int row = line.at(i);
            boolean equal = keys.order(copies, previous, row) == 0;
            previous = row;
            if (equal && sums.addInto(copies, first, row)) {
                fresh.added++;
            } else {
                line.put(kept, row);
                kept++;
                first = row;
            }
        }
        line.cut(kept);
    }

    /** The record at which the output exit fails, or NONE. */
    private int passOut() {
        outputExit.restart();
        int kept = 0;
        for (int i = 0; i < line.held(); i++) {
            int row = line.at(i);
            int answer = outputExit.meet(copies, row);
            if (answer == FAIL) {
                return copies.numberOf(row);
            }
            if (answer == DROP) {
                fresh.droppedOut++;
            } else {
                line.put(kept, row);
                kept++;
            }
        }
        line.cut(kept);
        return NONE;
    }

    private void copyInputs() {
        copies.clear();
        line.clear();
        for (int input = 0; input < INPUTS; input++) {
            line.beginRun();
            for (int i = 0; i < inputs.held(input); i++) {
                line.append(copies.addCopy(records, inputs.at(input, i) - 1));
            }
        }
        line.endRuns();
    }

    private int beginOutput() {
        stage = OUTPUT;
        taken = 0;
        hand = NONE;
        return line.held();
    }

    /** What the latest sort counted. */
    private static final class Tally {
        int runs;
        int passes;
        int droppedIn;
        int added;
        int droppedOut;

        void clear() {
            runs = 0;
            passes = 0;
            droppedIn = 0;
            added = 0;
            droppedOut = 0;
        }
    }

    /** Rows of 0 to 32 bytes, numbered from 0 on, each with the number of its record. */
    private static final class Rows {
        private final int limit;
        private final int[] numbers;
        private final int[] lengths;
        private final int[] bytes;
        private int held;

        Rows(int most) {
            limit = Math.min(Math.max(most, 0), MOST_ROWS);
            numbers = new int[limit];
            lengths = new int[limit];
            bytes = new int[limit * ROW_BYTES];
        }

        int held() {
            return held;
        }

        void clear() {
            held = 0;
        }

        void removeLast() {
            if (held > 0) {
                held--;
            }
        }

        /** A row without bytes; NONE if there is no room. */
        int add(int number) {
            if (held >= limit) {
                return NONE;
            }
            int row = held;
            held++;
            numbers[row] = number;
            lengths[row] = 0;
            return row;
        }

        int addCopy(Rows from, int row) {
            if (row < 0 || row >= from.held) {
                return NONE;
            }
            int copy = add(from.numbers[row]);
            if (copy != NONE) {
                lengths[copy] = from.lengths[row];
                System.arraycopy(from.bytes, row * ROW_BYTES, bytes, copy * ROW_BYTES,
                        lengths[copy]);
            }
            return copy;
        }

        int numberOf(int row) {
            return row < 0 || row >= held ? 0 : numbers[row];
        }

        int lengthOf(int row) {
            return row < 0 || row >= held ? 0 : lengths[row];
        }

        /** A byte behind the end counts as 0. */
        int byteAt(int row, int i) {
            if (row < 0 || row >= held || i < 0 || i >= lengths[row]) {
                return 0;
            }
            return bytes[row * ROW_BYTES + i];
        }

        void put(int row, int i, int b) {
            if (row < 0 || row >= held || i < 0 || i >= ROW_BYTES) {
                return;
            }
            int base = row * ROW_BYTES;
            for (int between = lengths[row]; between < i; between++) {
                bytes[base + between] = 0;
            }
            bytes[base + i] = b;
            lengths[row] = Math.max(lengths[row], i + 1);
        }
    }

    /** The keys, from the greatest one on. */
    private static final class Keys {
        private static final int SIGNED = 2;
        private static final int DIGITS = 3;
        private static final int NEGATIVE = 64;
        private static final int[] MOST_SIZES = {32, 8, 8, 18};

        private final int[] froms = new int[MOST_KEYS];
        private final int[] sizes = new int[MOST_KEYS];
        private final int[] usages = new int[MOST_KEYS];
        private final boolean[] downs = new boolean[MOST_KEYS];
        private int told;

        static boolean allows(int from, int size, int usage) {
            return usage >= 0 && usage < MOST_SIZES.length
                    && isField(from, size, MOST_SIZES[usage]);
        }

        int told() {
            return told;
        }

        int tell(int from, int size, int usage, boolean down) {
            if (told >= MOST_KEYS) {
                return NONE;
            }
            froms[told] = from;
            sizes[told] = size;
            usages[told] = usage;
            downs[told] = down;
            told++;
            return told;
        }

        /** -1, 0 or 1, as row a comes ahead of row b, is equal to it, or comes behind it. */
        int order(Rows rows, int a, int b) {
            for (int key = 0; key < told; key++) {
                int from = froms[key];
                int to = from + sizes[key];
                int order;
                if (usages[key] == SIGNED) {
                    order = sign(signed(rows, a, from, to), signed(rows, b, from, to));
                } else if (usages[key] == DIGITS) {
                    order = sign(digits(rows, a, from, to), digits(rows, b, from, to));
                } else {
                    order = byBytes(rows, a, b, from, to);
                }
                if (order != 0) {
                    return downs[key] ? -order : order;
                }
            }
            return 0;
        }

        private static int sign(long x, long y) {
            if (x == y) {
                return 0;
            }
            return x < y ? -1 : 1;
        }

        /** Serves text and binary without sign alike: the highest byte is the first one. */
        private static int byBytes(Rows rows, int a, int b, int from, int to) {
            for (int i = from; i < to; i++) {
                int order = rows.byteAt(a, i) - rows.byteAt(b, i);
                if (order != 0) {
                    return order < 0 ? -1 : 1;
                }
            }
            return 0;
        }

        private static long signed(Rows rows, int row, int from, int to) {
            // The first byte brings the sign: 128 .. 255 stand for -128 .. -1.
            long number = (byte) rows.byteAt(row, from);
            for (int i = from + 1; i < to; i++) {
                number = (number << 8) | rows.byteAt(row, i);
            }
            return number;
        }

        private static long digits(Rows rows, int row, int from, int to) {
            long number = 0;
            for (int i = from; i < to; i++) {
                number = number * 10 + (rows.byteAt(row, i) & 15) % 10;
            }
            return (rows.byteAt(row, to - 1) & NEGATIVE) != 0 ? -number : number;
        }
    }

    /** Which released records are taken. */
    private static final class Condition {
        static final int ALWAYS = 4;

        private int place;
        private int op = ALWAYS;
        private int operand;

        void tell(int i, int how, int b) {
            place = i;
            op = how;
            operand = b;
        }

        boolean letsThrough(Rows rows, int row) {
            int b = rows.byteAt(row, place);
            switch (op) {
                case 0: return b == operand;
                case 1: return b != operand;
                case 2: return b < operand;
                case 3: return b > operand;
                default: return true;
            }
        }
    }

    /** The fields of sums. */
    private static final class Sums {
        static final int MOST_SIZE = 8;

        private final int[] froms = new int[MOST_SUMS];
        private final int[] sizes = new int[MOST_SUMS];
        private final int[] trial = new int[ROW_BYTES];
        private int told;

        int told() {
            return told;
        }

        int tell(int from, int size) {
            if (told >= MOST_SUMS) {
                return NONE;
            }
            froms[told] = from;
            sizes[told] = size;
            told++;
            return told;
        }

        /** Adds on trial, so that an overflow in any field leaves both rows as they were. */
        boolean addInto(Rows rows, int first, int other) {
            int length = Math.min(rows.lengthOf(first), ROW_BYTES);
            for (int i = 0; i < length; i++) {
                trial[i] = rows.byteAt(first, i);
            }
            int shorter = Math.min(length, rows.lengthOf(other));
            for (int field = 0; field < told; field++) {
                int to = froms[field] + sizes[field];
                if (to <= shorter && !addField(rows, other, froms[field], to)) {
                    return false;
                }
            }
            for (int i = 0; i < length; i++) {
                rows.put(first, i, trial[i]);
            }
            return true;
        }

        private boolean addField(Rows rows, int other, int from, int to) {
            int carry = 0;
            for (int i = to - 1; i >= from; i--) {
                int digit = trial[i] + rows.byteAt(other, i) + carry;
                trial[i] = digit & 255;
                carry = digit >> 8;
            }
            return carry == 0;
        }
    }

    /** What is done with each row that comes, counted anew in each sort. */
    private static final class Exit {
        static final int DROPS_SECOND = 1;
        static final int ADDS_ONE = 2;
        static final int DROPS_EMPTY = 3;

        private int does;
        private int failsAt;
        private int came;

        void tell(int what, int where) {
            does = what;
            failsAt = where;
        }

        void restart() {
            came = 0;
        }

        /** KEEP, DROP or FAIL. */
        int meet(Rows rows, int row) {
            came++;
            if (came == failsAt) {
                return FAIL;
            }
            boolean empty = rows.lengthOf(row) == 0;
            if (does == ADDS_ONE && !empty) {
                rows.put(row, 0, (rows.byteAt(row, 0) + 1) & 255);
            }
            boolean drops = does == DROPS_SECOND && came % 2 == 0 || does == DROPS_EMPTY && empty;
            return drops ? DROP : KEEP;
        }
    }

    /** The ordered inputs that are to be merged, as numbers of records. */
    private static final class Inputs {
        private final int[] numbers = new int[MOST_ROWS];
        private final int[] helds = new int[INPUTS];
        private int all;

        int all() {
            return all;
        }

        int held(int input) {
            return input < 0 || input >= INPUTS ? 0 : helds[input];
        }

        int at(int input, int i) {
            return i < 0 || i >= held(input) ? 0 : numbers[input * MOST_IN_INPUT + i];
        }

        int add(int input, int number) {
            if (input < 0 || input >= INPUTS || helds[input] >= MOST_IN_INPUT) {
                return NONE;
            }
            numbers[input * MOST_IN_INPUT + helds[input]] = number;
            helds[input]++;
            all++;
            return helds[input];
        }

        void clear() {
            for (int input = 0; input < INPUTS; input++) {
                helds[input] = 0;
            }
            all = 0;
        }

        int firstOutOfOrder(Rows records, Keys keys) {
            for (int input = 0; input < INPUTS; input++) {
                for (int i = 1; i < helds[input]; i++) {
                    if (keys.order(records, at(input, i - 1) - 1, at(input, i) - 1) > 0) {
                        return input;
                    }
                }
            }
            return NONE;
        }
    }

    /** The copies in line, by their row numbers; runs follow one another in it. */
    private static final class Line {
        private final Rows copies;
        private final Keys keys;
        private final int[] rows = new int[MOST_ROWS];
        private final int[] spare = new int[MOST_ROWS];
        /** Where each run starts; behind the last run, where the line ends. */
        private final int[] starts = new int[MOST_ROWS + 1];
        private final int[] heads = new int[MOST_WAYS];
        private int held;
        private int runs;
        private boolean asTheyCame;

        Line(Rows allCopies, Keys allKeys) {
            copies = allCopies;
            keys = allKeys;
        }

        int held() {
            return held;
        }

        void clear() {
            held = 0;
            runs = 0;
        }

        void append(int row) {
            if (held < MOST_ROWS) {
                rows[held] = row;
                held++;
            }
        }

        int at(int i) {
            return i < 0 || i >= held ? NONE : rows[i];
        }

        void put(int i, int row) {
            if (i >= 0 && i < held) {
                rows[i] = row;
            }
        }

        void cut(int length) {
            held = Math.min(held, Math.max(length, 0));
        }

        void orderBy(boolean stable) {
            asTheyCame = stable;
        }

        void beginRun() {
            if (runs < MOST_ROWS) {
                starts[runs] = held;
                runs++;
            }
        }

        void endRuns() {
            starts[runs] = held;
        }

        /** Sorts the line run by run; how many runs there are. */
        int makeRuns(int size) {
            int step = Math.max(size, 1);
            runs = 0;
            for (int from = 0; from < held; from += step) {
                starts[runs] = from;
                runs++;
                int to = Math.min(from + step, held);
                for (int i = from + 1; i < to; i++) {
                    insert(from, i);
                }
            }
            endRuns();
            return runs;
        }

        /** Brings the row at i to its place among the sorted ones from a place up to it. */
        private void insert(int from, int i) {
            int row = rows[i];
            int low = from;
            int high = i;
            while (low < high) {
                int middle = (low + high) / 2;
                if (before(row, rows[middle])) {
                    high = middle;
                } else {
                    low = middle + 1;
                }
            }
            System.arraycopy(rows, low, rows, low + 1, i - low);
            rows[low] = row;
        }

        /** Merges till one run is left; how many passes that takes. */
        int mergeRuns(int ways) {
            int group = Math.min(Math.max(ways, LEAST_WAYS), MOST_WAYS);
            int passes = 0;
            while (runs > 1 && passes < MOST_ROWS) {
                int merged = 0;
                for (int first = 0; first < runs; first += group) {
                    mergeGroup(first, Math.min(first + group, runs));
                    // No group that is still to come reads this place: merged never passes first.
                    starts[merged] = starts[first];
                    merged++;
                }
                System.arraycopy(spare, 0, rows, 0, held);
                runs = merged;
                endRuns();
                passes++;
            }
            return passes;
        }

        /** Merges the runs first .. last - 1, at most MOST_WAYS, into the spare line. */
        private void mergeGroup(int first, int last) {
            for (int run = first; run < last; run++) {
                heads[run - first] = starts[run];
            }
            for (int place = starts[first]; place < starts[last]; place++) {
                int best = NONE;
                for (int run = first; run < last; run++) {
                    int head = heads[run - first];
                    if (head < starts[run + 1]
                            && (best == NONE || before(rows[head], rows[heads[best]]))) {
                        best = run - first;
                    }
                }
                if (best != NONE) {
                    spare[place] = rows[heads[best]];
                    heads[best]++;
                }
            }
        }

        /** Row a came later than row b in all that asks here, so that equal ones stay as they came. */
        private boolean before(int a, int b) {
            int order = keys.order(copies, a, b);
            if (order == 0 && !asTheyCame) {
                order = copies.numberOf(a) - copies.numberOf(b);
            }
            return order < 0;
        }
    }
}
