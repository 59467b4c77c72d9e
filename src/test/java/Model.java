import java.math.BigInteger;
import java.util.ArrayList;
import java.util.Comparator;
import java.util.List;

/** The document once more, as naively as can be, for ModelTest to compare with. */
final class Model {
    private record Key(int from, int size, int usage, boolean down) { }

    private record Field(int from, int size) { }

    private static final class Row {
        final int number;
        final int came;
        List<Integer> bytes;

        Row(int number, int came, List<Integer> bytes) {
            this.number = number;
            this.came = came;
            this.bytes = new ArrayList<>(bytes);
        }

        int at(int i) {
            return i < bytes.size() ? bytes.get(i) : 0;
        }
    }

    private final List<Key> keys = new ArrayList<>();
    private final List<Row> records = new ArrayList<>();
    private final List<Field> fields = new ArrayList<>();
    private final List<List<Integer>> inputs = new ArrayList<>();
    private final int[][] exits = new int[2][2];
    private final int[] counted = new int[5];
    private int[] condition = {0, 4, 0};
    private List<Integer> released = new ArrayList<>();
    private List<Row> output = new ArrayList<>();
    private Row hand;
    private int area = 8;
    private int ways = 2;
    private int stage;
    private int failed;

    Model() {
        for (int i = 0; i < 8; i++) {
            inputs.add(new ArrayList<>());
        }
    }

    private static boolean within(int x, int from, int to) {
        return x >= from && x <= to;
    }

    private boolean known(int record) {
        return within(record, 1, records.size());
    }

    int area(int rows) {
        if (rows < 0) {
            throw new NegativeArraySizeException();
        }
        if (!within(rows, 1, 1000)) {
            return -4;
        }
        area = rows;
        return 1;
    }

    int ways(int n) {
        if (!within(n, 2, 16)) {
            return -4;
        }
        int was = ways;
        ways = n;
        return was;
    }

    int key(int from, int size, int usage, boolean down) {
        if (!within(usage, 0, 3) || !within(from, 0, 31) || !within(size, 1, usage == 0 ? 32 : usage == 3 ? 18 : 8)
                || from + size > 32) {
            return -4;
        }
        if (stage != 0) {
            return -5;
        }
        if (keys.size() == 8) {
            return -1;
        }
        keys.add(new Key(from, size, usage, down));
        return keys.size();
    }

    int record() {
        if (records.size() == 400) {
            return -1;
        }
        records.add(new Row(records.size() + 1, 0, List.of()));
        return records.size();
    }

    int octet(int record, int i, int b) {
        if (!known(record)) {
            return -2;
        }
        if (!within(i, 0, 31)) {
            return -4;
        }
        List<Integer> bytes = records.get(record - 1).bytes;
        while (bytes.size() <= i) {
            bytes.add(0);
        }
        bytes.set(i, b & 0xff);
        return bytes.size();
    }

    int include(int i, int op, int b) {
        if (!within(i, 0, 31) || !within(op, 0, 4) || !within(b, 0, 255)) {
            return -4;
        }
        condition = new int[] {i, op, b};
        return 1;
    }

    int sum(int from, int size) {
        if (!within(from, 0, 31) || !within(size, 1, 8) || from + size > 32) {
            return -4;
        }
        if (fields.size() == 4) {
            return -1;
        }
        fields.add(new Field(from, size));
        return fields.size();
    }

    int exit(int kind, int does, int failsAt) {
        if (!within(kind, 0, 1) || !within(does, 0, 3) || !within(failsAt, 0, 1000)) {
            return -4;
        }
        exits[kind] = new int[] {does, failsAt};
        return 1;
    }

    int begin() {
        if (stage == 1) {
            return -5;
        }
        stage = 1;
        output = new ArrayList<>();
        hand = null;
        return 1;
    }

    int release(int record) {
        if (!known(record)) {
            return -2;
        }
        if (stage != 1) {
            return -5;
        }
        if (released.size() == 1000) {
            return -1;
        }
        released.add(record);
        return released.size();
    }

    int sort(boolean stable) {
        if (stage != 1) {
            return -5;
        }
        List<Row> taken = new ArrayList<>();
        for (int number : released) {
            Row r = records.get(number - 1);
            int b = r.at(condition[0]);
            int c = condition[2];
            boolean[] lets = {b == c, b != c, b < c, b > c, true};
            if (lets[condition[1]]) {
                taken.add(new Row(number, taken.size(), r.bytes));
            }
        }
        List<Row> copies = through(0, taken);
        List<List<Row>> runs = new ArrayList<>();
        for (int i = 0; i < copies.size(); i += area) {
            List<Row> run = new ArrayList<>(copies.subList(i, Math.min(i + area, copies.size())));
            run.sort(order(stable));
            runs.add(run);
        }
        int made = runs.size();
        int passes = 0;
        while (runs.size() > 1) {
            List<List<Row>> fewer = new ArrayList<>();
            for (int i = 0; i < runs.size(); i += ways) {
                List<Row> group = new ArrayList<>();
                for (int k = i; k < Math.min(i + ways, runs.size()); k++) {
                    group.addAll(runs.get(k));
                }
                group.sort(order(stable));
                fewer.add(group);
            }
            runs = fewer;
            passes++;
        }
        List<Row> sorted = runs.isEmpty() ? new ArrayList<>() : runs.get(0);
        List<Row> summed = fields.isEmpty() ? sorted : summed(sorted);
        List<Row> out = through(1, summed);
        counted[0] = made;
        counted[1] = passes;
        counted[2] = released.size() - copies.size();
        counted[3] = sorted.size() - summed.size();
        counted[4] = summed.size() - out.size();
        released = new ArrayList<>();
        return put(out);
    }

    private int put(List<Row> out) {
        output = out;
        hand = null;
        stage = 2;
        return out.size();
    }

    private List<Row> through(int kind, List<Row> rows) {
        List<Row> left = new ArrayList<>();
        for (int n = 1; n <= rows.size(); n++) {
            Row r = rows.get(n - 1);
            if (n == exits[kind][1]) {
                failed = r.number;
                throw new IllegalStateException();
            }
            int does = exits[kind][0];
            if (does == 2 && !r.bytes.isEmpty()) {
                r.bytes.set(0, (r.bytes.get(0) + 1) % 256);
            }
            if (!(does == 1 && n % 2 == 0) && !(does == 3 && r.bytes.isEmpty())) {
                left.add(r);
            }
        }
        return left;
    }

    private List<Row> summed(List<Row> sorted) {
        List<List<Row>> groups = new ArrayList<>();
        for (int i = 0; i < sorted.size(); i++) {
            if (i == 0 || byKeys(sorted.get(i - 1), sorted.get(i)) != 0) {
                groups.add(new ArrayList<>());
            }
            groups.get(groups.size() - 1).add(sorted.get(i));
        }
        List<Row> left = new ArrayList<>();
        for (List<Row> group : groups) {
            Row first = null;
            for (Row r : group) {
                List<Integer> sum = first == null ? null : plus(first, r);
                if (sum == null) {
                    first = r;
                    left.add(r);
                } else {
                    first.bytes = sum;
                }
            }
        }
        return left;
    }

    /** The bytes of the sum, or null by overflow. */
    private List<Integer> plus(Row first, Row other) {
        Row sum = new Row(0, 0, first.bytes);
        for (Field f : fields) {
            int end = f.from + f.size;
            if (first.bytes.size() < end || other.bytes.size() < end) {
                continue;
            }
            BigInteger n = plain(sum, f.from, f.size).add(plain(other, f.from, f.size));
            if (n.bitLength() > 8 * f.size) {
                return null;
            }
            for (int i = 0; i < f.size; i++) {
                sum.bytes.set(end - 1 - i, n.shiftRight(8 * i).intValue() & 0xff);
            }
        }
        return sum.bytes;
    }

    private static BigInteger plain(Row r, int from, int size) {
        BigInteger n = BigInteger.ZERO;
        for (int i = 0; i < size; i++) {
            n = n.shiftLeft(8).or(BigInteger.valueOf(r.at(from + i)));
        }
        return n;
    }

    private static BigInteger number(Row r, Key k) {
        BigInteger n = plain(r, k.from, k.size);
        if (k.usage == 2 && n.testBit(8 * k.size - 1)) {
            return n.subtract(BigInteger.ONE.shiftLeft(8 * k.size));
        }
        if (k.usage < 3) {
            return n;
        }
        StringBuilder digits = new StringBuilder();
        for (int i = 0; i < k.size; i++) {
            digits.append(r.at(k.from + i) % 16 % 10);
        }
        BigInteger d = new BigInteger(digits.toString());
        return r.at(k.from + k.size - 1) / 64 % 2 == 1 ? d.negate() : d;
    }

    private int byKeys(Row a, Row b) {
        for (Key k : keys) {
            int c = number(a, k).compareTo(number(b, k));
            if (c != 0) {
                return k.down ? -c : c;
            }
        }
        return 0;
    }

    private Comparator<Row> order(boolean stable) {
        Comparator<Row> c = this::byKeys;
        return (stable ? c : c.thenComparing(r -> r.number)).thenComparing(r -> r.came);
    }

    int next() {
        if (stage != 2) {
            return -5;
        }
        if (output.isEmpty()) {
            hand = null;
            stage = 0;
            return 0;
        }
        hand = output.remove(0);
        return hand.number;
    }

    int value(int i) {
        return hand == null || !within(i, 0, hand.bytes.size() - 1) ? -1 : hand.bytes.get(i);
    }

    int merge(int input, int record) {
        if (!known(record)) {
            return -2;
        }
        if (!within(input, 0, 7)) {
            return -4;
        }
        if (inputs.get(input).size() == 200) {
            return -1;
        }
        inputs.get(input).add(record);
        return inputs.get(input).size();
    }

    int mergeAll() {
        if (stage == 1) {
            return -5;
        }
        List<Row> all = new ArrayList<>();
        for (int input = 0; input < 8; input++) {
            Row last = null;
            for (int number : inputs.get(input)) {
                Row r = records.get(number - 1);
                if (last != null && byKeys(last, r) > 0) {
                    return -10 - input;
                }
                last = r;
                all.add(new Row(number, all.size(), r.bytes));
            }
        }
        all.sort(order(true));
        inputs.forEach(List::clear);
        return put(all);
    }

    int compare(int a, int b) {
        if (!known(a) || !known(b)) {
            throw new IllegalArgumentException();
        }
        return byKeys(records.get(a - 1), records.get(b - 1));
    }

    int failed() {
        return failed;
    }

    int count(int what) {
        if (within(what, 4, 8)) {
            return counted[what - 4];
        }
        return switch (what) {
            case 0 -> keys.size();
            case 1 -> records.size();
            case 2 -> stage;
            case 3 -> released.size();
            case 9 -> inputs.stream().mapToInt(List::size).sum();
            default -> -1;
        };
    }
}
