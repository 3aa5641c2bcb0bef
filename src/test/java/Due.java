import java.nio.charset.StandardCharsets;

/** What the tests share: it counts answers, prints those that are not due, feeds texts. */
final class Due {
    static final int NONE = -1000000, BAD = -1000001, STATE = -1000002, FULL = -1000003;
    static final int NULL = -1000011, PLACE = -1000012, KIND = -1000013, SIZE = -1000014, STORE = -1000015;

    private static int asked;
    private static int wrong;

    private Due() {
    }

    static void is(String call, long got, long want) {
        asked++;
        if (got != want) {
            wrong++;
            System.out.println(call + " answered " + got + ", due is " + want);
        }
    }

    static void feed(DustReads x, String text) {
        byte[] bytes = text.getBytes(StandardCharsets.ISO_8859_1);
        for (int at = 0; at < bytes.length; at += 8) {
            int n = Math.min(8, bytes.length - at);
            long w = 0;
            for (int k = 0; k < n; k++) {
                w = w << 8 | bytes[at + k] & 0xff;
            }
            x.feed(w, n);
        }
    }

    static int read(DustReads x, String text) {
        feed(x, text);
        return x.library();
    }

    /** A new object with the LIBRARY of a text. */
    static DustReads of(String text) {
        DustReads x = new DustReads();
        if (read(x, text) < 1) {
            is("library of '" + text + "'", -1, 1);
        }
        return x;
    }

    static void pass(DustReads x, int n) {
        for (int left = n; left > 0; left -= 24) {
            x.hours(Math.min(24, left));
        }
    }

    static void lay(DustReads x, int row, int lane, int... items) {
        x.row(row, lane, items.length);
        for (int i = 0; i < items.length; i++) {
            x.set(row, i, items[i]);
        }
    }

    static void end(String test) {
        System.out.println(test + ": " + asked + " answers, " + wrong + " not as due");
        if (wrong > 0 || asked == 0) {
            System.exit(1);
        }
    }
}
