import java.lang.reflect.Method;
import java.util.HashMap;
import java.util.LinkedHashMap;
import java.util.Map;

/** What the tests of refusals share: calls by name, objects in which much has happened, all that can be seen of one. */
final class Calls {
    static final int MOST = Integer.MAX_VALUE, LEAST = Integer.MIN_VALUE;
    private static final Map<String, Method> FACE = new HashMap<>();
    private static final int SEVEN = 7;

    static {
        for (Method m : DustReads.class.getDeclaredMethods()) {
            FACE.put(m.getName(), m);
        }
    }

    private Calls() {
    }

    static int make(DustReads x, String name, int... given) {
        Object[] arguments = new Object[given.length];
        for (int k = 0; k < given.length; k++) {
            arguments[k] = name.equals("feed") && k == 0 ? (Object) (long) given[k] : (Object) given[k];
        }
        try {
            return (int) FACE.get(name).invoke(x, arguments);
        } catch (ReflectiveOperationException e) {
            throw new IllegalStateException(name + " threw", e);
        }
    }

    static String told(String name, int... given) {
        StringBuilder text = new StringBuilder(name);
        for (int v : given) {
            text.append(' ').append(v);
        }
        return text.toString();
    }

    /**
     * SPOT 0 stands with 4 of dust at hour 5, SPOTS 1 and 2 are changed, SPOT 3 is out for 6 hours yet. Row 0 has 3
     * bytes, row 1 has 4 ints, row 2 has 21 bytes (7 all), row 3 had shorts and is missing. 7 bytes are on the tape,
     * fault() is 2, status() is 2.
     */
    static DustReads busy() {
        DustReads x = Due.of("spot open 1 0 1;spot window 2 5 2;spot corner 3 9 3;spot glass 4 2 4;"
            + "reader 0 9;reader 3 5;");
        x.hours(1);
        x.image(1);
        x.change(1, 2);
        x.dusts(1);
        x.hours(3);
        x.image(0);
        x.take(3, 7);
        x.hours(1);
        Due.lay(x, 0, 0, SEVEN, SEVEN, SEVEN);
        Due.lay(x, 1, 2, SEVEN, SEVEN, SEVEN, SEVEN);
        x.row(2, 0, 21);
        for (int i = 0; i < 21; i += 3) {
            x.copy(0, 0, 2, i, 3);
        }
        Due.lay(x, 3, 1, SEVEN, SEVEN);
        x.drop(3);
        Due.read(x, "spot open 9 0 0;");
        Due.feed(x, "spot gl");
        x.ask(2, 1);
        x.set(0, 3, 1);
        return x;
    }

    /** Hour 990, 24 acts, 398 bytes on the tape. */
    static DustReads nearlyFull() {
        DustReads x = busy();
        Due.pass(x, 985);
        StringBuilder text = new StringBuilder("ass 1 7 0;");
        while (text.length() < 391) {
            text.append('\n');
        }
        Due.feed(x, text.toString());
        return x;
    }

    /** No LIBRARY; 7 bytes are on the tape, fault() is 2, status() is 2. */
    static DustReads bare() {
        DustReads x = new DustReads();
        Due.read(x, "spot open 9 0 0;");
        Due.feed(x, "spot gl");
        Due.lay(x, 0, 0, SEVEN, SEVEN, SEVEN);
        x.set(0, 3, 1);
        return x;
    }

    /** All that can be seen of an object but status(); it is spent then. */
    static String look(DustReads x) {
        Map<String, String> parts = parts(x);
        parts.remove("status");
        return parts.toString();
    }

    /** All that can be seen of an object, by parts; it is spent then. */
    static Map<String, String> parts(DustReads x) {
        Map<String, String> parts = new LinkedHashMap<>();
        parts.put("status", "" + x.status());
        parts.put("fault", "" + x.fault());
        parts.put("trace", trace(x));
        parts.put("library", library(x));
        parts.put("acts", acts(x));
        for (int k = 0; k < 2; k++) {
            parts.put("image " + k, x.restore(k) == 1 ? library(x) : "none");
        }
        parts.put("tape", tape(x));
        parts.put("rows", rows(x));
        return parts;
    }

    private static String trace(DustReads x) {
        StringBuilder seen = new StringBuilder();
        for (int i = 0; i < 6; i++) {
            seen.append(' ').append(x.trace(i));
        }
        return seen.toString();
    }

    private static String library(DustReads x) {
        StringBuilder seen = new StringBuilder();
        for (int what : new int[] {1, 2, 3, 5}) {
            seen.append(' ').append(x.count(what));
        }
        for (int s = 0; s < x.count(1); s++) {
            for (int what = 0; what < 5; what++) {
                seen.append(' ').append(x.spot(s, what));
            }
        }
        return seen.toString();
    }

    /** All ACTS are undone. */
    private static String acts(DustReads x) {
        int left = x.count(4);
        StringBuilder seen = new StringBuilder().append(left);
        for (int k = 0; k < left; k++) {
            seen.append("; undo ").append(x.undo());
            // Not each time: an object has 512 calls.
            if (left < 12 || k % 6 == 5) {
                seen.append(library(x));
            } else {
                seen.append(' ').append(x.count(3)).append(' ').append(x.spot(0, 1));
            }
        }
        return seen.toString();
    }

    /** It is read to its end, as a library with 7 of dust under glass. */
    private static String tape(DustReads x) {
        StringBuilder seen = new StringBuilder().append(x.count(6));
        if (x.count(6) < 10) {
            Due.feed(x, x.count(6) == 0 ? "spot glass 1 7 0;" : "ass 1 7 0;");
        }
        return seen.append(' ').append(x.library()).append(' ').append(x.kind(0)).append(' ').append(x.count(1))
            .toString();
    }

    /** By 7 of dust under glass; the ROWS are missing then. */
    private static String rows(DustReads x) {
        Due.read(x, "spot glass 1 7 0;");
        StringBuilder seen = new StringBuilder();
        for (int row = 0; row < 8; row++) {
            int n = 0;
            while (x.learnt(row, n, 1, 0) == 1) {
                n++;
            }
            // What becomes of 40000 tells the LANE.
            seen.append(' ').append(n).append(' ').append(x.set(row, 0, 40000)).append(' ').append(x.drop(row));
        }
        return seen.toString();
    }
}
