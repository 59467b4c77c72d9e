/** What the tests share: it counts wrong answers and ends the test with exit code 1 if there was one. */
final class Check {
    interface Call {
        long answer();
    }

    private int wrong;

    void due(String call, long got, long want) {
        if (got != want) {
            wrong++;
            System.out.println(call + " answered " + got + ", due is " + want);
        }
    }

    void due(String call, String got, String want) {
        if (!got.equals(want)) {
            wrong++;
            System.out.println(call + " answered " + got + ", due is " + want);
        }
    }

    void dueThrow(String call, Class<? extends RuntimeException> want, Call made) {
        String got;
        try {
            got = String.valueOf(made.answer());
        } catch (RuntimeException e) {
            got = e.getClass().getSimpleName();
        }
        due(call, got, want.getSimpleName());
    }

    void end() {
        if (wrong != 0) {
            System.out.println(wrong + " answers are not as due");
            System.exit(1);
        }
    }

    /** A new record of these bytes. */
    static int make(SortMerge x, int... bytes) {
        int record = x.record();
        for (int i = 0; i < bytes.length; i++) {
            x.octet(record, i, bytes[i]);
        }
        return record;
    }

    static void release(SortMerge x, int... records) {
        x.begin();
        for (int record : records) {
            x.release(record);
        }
    }

    static void merge(SortMerge x, int input, int... records) {
        for (int record : records) {
            x.merge(input, record);
        }
    }

    /** All that is left of the output, up to the end: the numbers of the records. */
    static String numbers(SortMerge x) {
        StringBuilder text = new StringBuilder();
        for (int number = x.next(); number > 0; number = x.next()) {
            text.append(text.length() == 0 ? "" : " ").append(number);
        }
        return text.toString();
    }

    /** The bytes of the record at hand. */
    static String bytes(SortMerge x) {
        StringBuilder text = new StringBuilder();
        for (int i = 0; x.value(i) != SortMerge.NONE; i++) {
            text.append(i == 0 ? "" : " ").append(x.value(i));
        }
        return text.toString();
    }

    /** All that is left of the output, up to the end: the numbers of the records with their bytes. */
    static String all(SortMerge x) {
        StringBuilder text = new StringBuilder();
        for (int number = x.next(); number > 0; number = x.next()) {
            String bytes = bytes(x);
            text.append(number).append(bytes.isEmpty() ? ":" : ": ").append(bytes).append("; ");
        }
        return text.toString();
    }

    static String counts(SortMerge x) {
        StringBuilder text = new StringBuilder();
        for (int what = 0; what < 10; what++) {
            text.append(what == 0 ? "" : " ").append(x.count(what));
        }
        return text.toString();
    }
}
