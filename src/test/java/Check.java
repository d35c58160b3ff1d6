import java.nio.charset.StandardCharsets;

/** Counts what is as it is due, and tells what is not. */
final class Check {
    private static int passed = 0;
    private static int failed = 0;

    private Check() {
    }

    /** A call that may throw. */
    interface Call {
        void run();
    }

    static void due(String call, long got, long want) {
        if (got == want) {
            passed++;
        } else {
            tellWrong(call + " answered " + got + ", due is " + want);
        }
    }

    static void due(String call, boolean got, boolean want) {
        due(call, got ? 1 : 0, want ? 1 : 0);
    }

    static void throwing(String call, Class<? extends RuntimeException> due, Call run) {
        Class<?> got = null;
        try {
            run.run();
        } catch (RuntimeException e) {
            got = e.getClass();
        }
        if (got == due) {
            passed++;
        } else {
            tellWrong(call + " threw " + got + ", due is " + due);
        }
    }

    static void tellWrong(String what) {
        failed++;
        System.out.println("WRONG: " + what);
    }

    static boolean close() {
        System.out.println(passed + " passed, " + failed + " failed");
        return failed == 0;
    }

    /** Feeds a text, behind which blanks fill the last twenty bytes. */
    static void feed(SpoonRow row, String text) {
        byte[] bytes = text.getBytes(StandardCharsets.ISO_8859_1);
        for (int from = 0; from < bytes.length; from += 20) {
            row.feed(number(bytes, from), number(bytes, from + 4), number(bytes, from + 8),
                    number(bytes, from + 12), number(bytes, from + 16));
        }
    }

    static int number(byte[] bytes, int from) {
        int number = 0;
        for (int i = from; i < from + 4; i++) {
            number = number << 8 | (i < bytes.length ? bytes[i] & 255 : 32);
        }
        return number;
    }

    static int tell(SpoonRow row, String text) {
        feed(row, text);
        return row.bed(text.length());
    }

    /** A new object to which a text without a fault was told. */
    static SpoonRow told(String text) {
        SpoonRow row = new SpoonRow();
        due("bed of " + text, tell(row, text), 0);
        return row;
    }

    static void fault(String text, int fault, int at) {
        SpoonRow row = new SpoonRow();
        due("FAULT of " + text, tell(row, text), fault);
        due("fault() of " + text, row.fault(), at);
    }
}
